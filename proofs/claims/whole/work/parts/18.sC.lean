section S
variable {d o o2 p0 p1 p2 p3 p4 q0 q1 q2 q3 q4 q5 : Nat} {L S : List Value} {h : abH} {Q : Option Value → abH → Prop} {l0 l1 l2 l3 l4 l5 l6 l7 l8 l9 l10 l11 l12 l13 l14 l15 l16 l17 l18 l19 : Value} {a b x0 x1 x2 x3 x4 x5 y0 y1 y2 y3 y4 y5 : Int32} {u w u0 w0 w1 w2 w3 w4 : Int64}
-- method 94: BufferRoom.<init>()V
theorem dX11_init_0 : decode cX11_init 0 = .ok (.aload_n 0, 1) := by decide +kernel
theorem dX11_init_1 : decode cX11_init 1 = .ok (.invokespecial 1, 3) := by decide +kernel
theorem dX11_init_4 : decode cX11_init 4 = .ok (.aload_n 0, 1) := by decide +kernel
theorem dX11_init_5 : decode cX11_init 5 = .ok (.new 7, 3) := by decide +kernel
theorem dX11_init_8 : decode cX11_init 8 = .ok (.dup, 1) := by decide +kernel
theorem dX11_init_9 : decode cX11_init 9 = .ok (.invokespecial 9, 3) := by decide +kernel
theorem dX11_init_12 : decode cX11_init 12 = .ok (.putfield 10, 3) := by decide +kernel
theorem dX11_init_15 : decode cX11_init 15 = .ok (.aload_n 0, 1) := by decide +kernel
theorem dX11_init_16 : decode cX11_init 16 = .ok (.new 16, 3) := by decide +kernel
theorem dX11_init_19 : decode cX11_init 19 = .ok (.dup, 1) := by decide +kernel
theorem dX11_init_20 : decode cX11_init 20 = .ok (.invokespecial 18, 3) := by decide +kernel
theorem dX11_init_23 : decode cX11_init 23 = .ok (.putfield 19, 3) := by decide +kernel
theorem dX11_init_26 : decode cX11_init 26 = .ok (.aload_n 0, 1) := by decide +kernel
theorem dX11_init_27 : decode cX11_init 27 = .ok (.new 16, 3) := by decide +kernel
theorem dX11_init_30 : decode cX11_init 30 = .ok (.dup, 1) := by decide +kernel
theorem dX11_init_31 : decode cX11_init 31 = .ok (.invokespecial 18, 3) := by decide +kernel
theorem dX11_init_34 : decode cX11_init 34 = .ok (.putfield 23, 3) := by decide +kernel
theorem dX11_init_37 : decode cX11_init 37 = .ok (.aload_n 0, 1) := by decide +kernel
theorem dX11_init_38 : decode cX11_init 38 = .ok (.getfield 19, 3) := by decide +kernel
theorem dX11_init_41 : decode cX11_init 41 = .ok (.invokevirtual 26, 3) := by decide +kernel
theorem dX11_init_44 : decode cX11_init 44 = .ok (.aload_n 0, 1) := by decide +kernel
theorem dX11_init_45 : decode cX11_init 45 = .ok (.new 29, 3) := by decide +kernel
theorem dX11_init_48 : decode cX11_init 48 = .ok (.dup, 1) := by decide +kernel
theorem dX11_init_49 : decode cX11_init 49 = .ok (.invokespecial 31, 3) := by decide +kernel
theorem dX11_init_52 : decode cX11_init 52 = .ok (.putfield 32, 3) := by decide +kernel
theorem dX11_init_55 : decode cX11_init 55 = .ok (.aload_n 0, 1) := by decide +kernel
theorem dX11_init_56 : decode cX11_init 56 = .ok (.new 36, 3) := by decide +kernel
theorem dX11_init_59 : decode cX11_init 59 = .ok (.dup, 1) := by decide +kernel
theorem dX11_init_60 : decode cX11_init 60 = .ok (.invokespecial 38, 3) := by decide +kernel
theorem dX11_init_63 : decode cX11_init 63 = .ok (.putfield 39, 3) := by decide +kernel
theorem dX11_init_66 : decode cX11_init 66 = .ok (.aload_n 0, 1) := by decide +kernel
theorem dX11_init_67 : decode cX11_init 67 = .ok (.new 43, 3) := by decide +kernel
theorem dX11_init_70 : decode cX11_init 70 = .ok (.dup, 1) := by decide +kernel
theorem dX11_init_71 : decode cX11_init 71 = .ok (.invokespecial 45, 3) := by decide +kernel
theorem dX11_init_74 : decode cX11_init 74 = .ok (.putfield 46, 3) := by decide +kernel
theorem dX11_init_77 : decode cX11_init 77 = .ok (.aload_n 0, 1) := by decide +kernel
theorem dX11_init_78 : decode cX11_init 78 = .ok (.bipush 12, 2) := by decide +kernel
theorem dX11_init_80 : decode cX11_init 80 = .ok (.newarray .int, 2) := by decide +kernel
theorem dX11_init_82 : decode cX11_init 82 = .ok (.putfield 50, 3) := by decide +kernel
theorem dX11_init_85 : decode cX11_init 85 = .ok (.aload_n 0, 1) := by decide +kernel
theorem dX11_init_86 : decode cX11_init 86 = .ok (.new 54, 3) := by decide +kernel
theorem dX11_init_89 : decode cX11_init 89 = .ok (.dup, 1) := by decide +kernel
theorem dX11_init_90 : decode cX11_init 90 = .ok (.invokespecial 56, 3) := by decide +kernel
theorem dX11_init_93 : decode cX11_init 93 = .ok (.putfield 57, 3) := by decide +kernel
theorem dX11_init_96 : decode cX11_init 96 = .ok (.aload_n 0, 1) := by decide +kernel
theorem dX11_init_97 : decode cX11_init 97 = .ok (.new 61, 3) := by decide +kernel
theorem dX11_init_100 : decode cX11_init 100 = .ok (.dup, 1) := by decide +kernel
theorem dX11_init_101 : decode cX11_init 101 = .ok (.invokespecial 63, 3) := by decide +kernel
theorem dX11_init_104 : decode cX11_init 104 = .ok (.putfield 64, 3) := by decide +kernel
theorem dX11_init_107 : decode cX11_init 107 = .ok (.aload_n 0, 1) := by decide +kernel
theorem dX11_init_108 : decode cX11_init 108 = .ok (.new 68, 3) := by decide +kernel
theorem dX11_init_111 : decode cX11_init 111 = .ok (.dup, 1) := by decide +kernel
theorem dX11_init_112 : decode cX11_init 112 = .ok (.invokespecial 70, 3) := by decide +kernel
theorem dX11_init_115 : decode cX11_init 115 = .ok (.putfield 71, 3) := by decide +kernel
theorem dX11_init_118 : decode cX11_init 118 = .ok (.aload_n 0, 1) := by decide +kernel
theorem dX11_init_119 : decode cX11_init 119 = .ok (.new 68, 3) := by decide +kernel
theorem dX11_init_122 : decode cX11_init 122 = .ok (.dup, 1) := by decide +kernel
theorem dX11_init_123 : decode cX11_init 123 = .ok (.invokespecial 70, 3) := by decide +kernel
theorem dX11_init_126 : decode cX11_init 126 = .ok (.putfield 75, 3) := by decide +kernel
theorem dX11_init_129 : decode cX11_init 129 = .ok (.aload_n 0, 1) := by decide +kernel
theorem dX11_init_130 : decode cX11_init 130 = .ok (.iconst 4, 1) := by decide +kernel
theorem dX11_init_131 : decode cX11_init 131 = .ok (.anewarray 78, 3) := by decide +kernel
theorem dX11_init_134 : decode cX11_init 134 = .ok (.putfield 80, 3) := by decide +kernel
theorem dX11_init_137 : decode cX11_init 137 = .ok (.iconst 0, 1) := by decide +kernel
theorem dX11_init_138 : decode cX11_init 138 = .ok (.istore_n 1, 1) := by decide +kernel
theorem dX11_init_139 : decode cX11_init 139 = .ok (.iload_n 1, 1) := by decide +kernel
theorem dX11_init_140 : decode cX11_init 140 = .ok (.iconst 4, 1) := by decide +kernel
theorem dX11_init_141 : decode cX11_init 141 = .ok (.if_icmp .ge 22, 3) := by decide +kernel
theorem dX11_init_144 : decode cX11_init 144 = .ok (.aload_n 0, 1) := by decide +kernel
theorem dX11_init_145 : decode cX11_init 145 = .ok (.getfield 80, 3) := by decide +kernel
theorem dX11_init_148 : decode cX11_init 148 = .ok (.iload_n 1, 1) := by decide +kernel
theorem dX11_init_149 : decode cX11_init 149 = .ok (.new 78, 3) := by decide +kernel
theorem dX11_init_152 : decode cX11_init 152 = .ok (.dup, 1) := by decide +kernel
theorem dX11_init_153 : decode cX11_init 153 = .ok (.invokespecial 84, 3) := by decide +kernel
theorem dX11_init_156 : decode cX11_init 156 = .ok (.aastore, 1) := by decide +kernel
theorem dX11_init_157 : decode cX11_init 157 = .ok (.iinc 1 1, 3) := by decide +kernel
theorem dX11_init_160 : decode cX11_init 160 = .ok (.goto (-21), 3) := by decide +kernel
theorem dX11_init_163 : decode cX11_init 163 = .ok (.aload_n 0, 1) := by decide +kernel
theorem dX11_init_164 : decode cX11_init 164 = .ok (.invokevirtual 85, 3) := by decide +kernel
theorem dX11_init_167 : decode cX11_init 167 = .ok (.return_, 1) := by decide +kernel
theorem s94_0 : aW d 94 0 [.ref o, l1] S h Q = aW d 94 1 [.ref o, l1] (.ref o :: S) h Q := ax_aload_n mt94 dX11_init_0 rfl
theorem s94_1 : aW (d + 1) 94 1 L (.ref o :: []) h Q = aW (d + 1) 94 4 L [] h Q := ax_obj mt94 dX11_init_1 (by decide) ct_45057 (Nat.le_of_ble_eq_true rfl)
theorem s94_4 : aW d 94 4 [.ref o, l1] S h Q = aW d 94 5 [.ref o, l1] (.ref o :: S) h Q := ax_aload_n mt94 dX11_init_4 rfl
theorem s94_5 : aW d 94 5 L S h Q = aW d 94 8 L (.ref h.1.length :: S) (nO h 9 5) Q := ax_new mt94 dX11_init_5 (by decide) nt_45063 (by decide)
theorem s94_8 : aW d 94 8 L (.ref o :: S) h Q = aW d 94 9 L (.ref o :: .ref o :: S) h Q := ax_dupa mt94 dX11_init_8
theorem s94_9 : aW (d + 1) 94 9 L (.ref o :: [.ref q0, .ref q1]) h Q = aM d 55 (.ref o :: []) h (fun v h1 => aW (d + 1) 94 12 L (ab_ps v [.ref q0, .ref q1]) h1 Q) := ax_invi mt94 dX11_init_9 (by decide) ct_45065 (.inr rfl) mt55 ⟨⟨Nat.le_of_ble_eq_true rfl, Nat.le_of_ble_eq_true rfl, Nat.le_of_ble_eq_true rfl⟩, rfl, rfl⟩
theorem s94_12 (hT : gT h o = some (13, 14)) : aW d 94 12 L (.ref o2 :: .ref o :: S) h Q = aW d 94 15 L S (pR h o 0 (.ref o2)) Q := ax_puta mt94 dX11_init_12 (by decide) ft_45066 (fun q => q.2 ⟨rfl, rfl, rfl⟩) fp_45066 hT
theorem s94_15 : aW d 94 15 [.ref o, l1] S h Q = aW d 94 16 [.ref o, l1] (.ref o :: S) h Q := ax_aload_n mt94 dX11_init_15 rfl
theorem s94_16 : aW d 94 16 L S h Q = aW d 94 19 L (.ref h.1.length :: S) (nO h 8 12) Q := ax_new mt94 dX11_init_16 (by decide) nt_45072 (by decide)
theorem s94_19 : aW d 94 19 L (.ref o :: S) h Q = aW d 94 20 L (.ref o :: .ref o :: S) h Q := ax_dupa mt94 dX11_init_19
theorem s94_20 : aW (d + 1) 94 20 L (.ref o :: [.ref q0, .ref q1]) h Q = aM d 42 (.ref o :: []) h (fun v h1 => aW (d + 1) 94 23 L (ab_ps v [.ref q0, .ref q1]) h1 Q) := ax_invi mt94 dX11_init_20 (by decide) ct_45074 (.inr rfl) mt42 ⟨⟨Nat.le_of_ble_eq_true rfl, Nat.le_of_ble_eq_true rfl, Nat.le_of_ble_eq_true rfl⟩, rfl, rfl⟩
theorem s94_23 (hT : gT h o = some (13, 14)) : aW d 94 23 L (.ref o2 :: .ref o :: S) h Q = aW d 94 26 L S (pR h o 1 (.ref o2)) Q := ax_puta mt94 dX11_init_23 (by decide) ft_45075 (fun q => fn_45075 q.1) fp_45075 hT
theorem s94_26 : aW d 94 26 [.ref o, l1] S h Q = aW d 94 27 [.ref o, l1] (.ref o :: S) h Q := ax_aload_n mt94 dX11_init_26 rfl
theorem s94_27 : aW d 94 27 L S h Q = aW d 94 30 L (.ref h.1.length :: S) (nO h 8 12) Q := ax_new mt94 dX11_init_27 (by decide) nt_45072 (by decide)
theorem s94_30 : aW d 94 30 L (.ref o :: S) h Q = aW d 94 31 L (.ref o :: .ref o :: S) h Q := ax_dupa mt94 dX11_init_30
theorem s94_31 : aW (d + 1) 94 31 L (.ref o :: [.ref q0, .ref q1]) h Q = aM d 42 (.ref o :: []) h (fun v h1 => aW (d + 1) 94 34 L (ab_ps v [.ref q0, .ref q1]) h1 Q) := ax_invi mt94 dX11_init_31 (by decide) ct_45074 (.inr rfl) mt42 ⟨⟨Nat.le_of_ble_eq_true rfl, Nat.le_of_ble_eq_true rfl, Nat.le_of_ble_eq_true rfl⟩, rfl, rfl⟩
theorem s94_34 (hT : gT h o = some (13, 14)) : aW d 94 34 L (.ref o2 :: .ref o :: S) h Q = aW d 94 37 L S (pR h o 2 (.ref o2)) Q := ax_puta mt94 dX11_init_34 (by decide) ft_45079 (fun q => fn_45079 q.1) fp_45079 hT
theorem s94_37 : aW d 94 37 [.ref o, l1] S h Q = aW d 94 38 [.ref o, l1] (.ref o :: S) h Q := ax_aload_n mt94 dX11_init_37 rfl
theorem s94_38 (hT : gT h o = some (13, 14)) : aW d 94 38 L (.ref o :: S) h Q = (isRf (gR h o 1) = true ∧ aW d 94 41 L (gR h o 1 :: S) h Q) := ax_geta mt94 dX11_init_38 (by decide) ft_45075 fk_45075 hT
theorem s94_41 (hT : gT h o = some (8, 12)) : aW (d + 1) 94 41 L (.ref o :: []) h Q = aM d 43 (.ref o :: []) h (fun v h1 => aW (d + 1) 94 44 L (ab_ps v []) h1 Q) := ax_invv mt94 dX11_init_41 (by decide) ct_45082 (.inl rfl) mt43 ⟨⟨Nat.le_of_ble_eq_true rfl, Nat.le_of_ble_eq_true rfl, Nat.le_of_ble_eq_true rfl⟩, rfl, rfl, rfl⟩ hT
theorem s94_44 : aW d 94 44 [.ref o, l1] S h Q = aW d 94 45 [.ref o, l1] (.ref o :: S) h Q := ax_aload_n mt94 dX11_init_44 rfl
theorem s94_45 : aW d 94 45 L S h Q = aW d 94 48 L (.ref h.1.length :: S) (nO h 12 9) Q := ax_new mt94 dX11_init_45 (by decide) nt_45085 (by decide)
theorem s94_48 : aW d 94 48 L (.ref o :: S) h Q = aW d 94 49 L (.ref o :: .ref o :: S) h Q := ax_dupa mt94 dX11_init_48
theorem s94_49 : aW (d + 1) 94 49 L (.ref o :: [.ref q0, .ref q1]) h Q = aM d 81 (.ref o :: []) h (fun v h1 => aW (d + 1) 94 52 L (ab_ps v [.ref q0, .ref q1]) h1 Q) := ax_invi mt94 dX11_init_49 (by decide) ct_45087 (.inr rfl) mt81 ⟨⟨Nat.le_of_ble_eq_true rfl, Nat.le_of_ble_eq_true rfl, Nat.le_of_ble_eq_true rfl⟩, rfl, rfl⟩
theorem s94_52 (hT : gT h o = some (13, 14)) : aW d 94 52 L (.ref o2 :: .ref o :: S) h Q = aW d 94 55 L S (pR h o 3 (.ref o2)) Q := ax_puta mt94 dX11_init_52 (by decide) ft_45088 (fun q => q.2 ⟨rfl, rfl, rfl⟩) fp_45088 hT
theorem s94_55 : aW d 94 55 [.ref o, l1] S h Q = aW d 94 56 [.ref o, l1] (.ref o :: S) h Q := ax_aload_n mt94 dX11_init_55 rfl
theorem s94_56 : aW d 94 56 L S h Q = aW d 94 59 L (.ref h.1.length :: S) (nO h 6 4) Q := ax_new mt94 dX11_init_56 (by decide) nt_45092 (by decide)
theorem s94_59 : aW d 94 59 L (.ref o :: S) h Q = aW d 94 60 L (.ref o :: .ref o :: S) h Q := ax_dupa mt94 dX11_init_59
theorem s94_60 : aW (d + 1) 94 60 L (.ref o :: [.ref q0, .ref q1]) h Q = aM d 31 (.ref o :: []) h (fun v h1 => aW (d + 1) 94 63 L (ab_ps v [.ref q0, .ref q1]) h1 Q) := ax_invi mt94 dX11_init_60 (by decide) ct_45094 (.inr rfl) mt31 ⟨⟨Nat.le_of_ble_eq_true rfl, Nat.le_of_ble_eq_true rfl, Nat.le_of_ble_eq_true rfl⟩, rfl, rfl⟩
theorem s94_63 (hT : gT h o = some (13, 14)) : aW d 94 63 L (.ref o2 :: .ref o :: S) h Q = aW d 94 66 L S (pR h o 4 (.ref o2)) Q := ax_puta mt94 dX11_init_63 (by decide) ft_45095 (fun q => q.2 ⟨rfl, rfl, rfl⟩) fp_45095 hT
theorem s94_66 : aW d 94 66 [.ref o, l1] S h Q = aW d 94 67 [.ref o, l1] (.ref o :: S) h Q := ax_aload_n mt94 dX11_init_66 rfl
theorem s94_67 : aW d 94 67 L S h Q = aW d 94 70 L (.ref h.1.length :: S) (nO h 4 6) Q := ax_new mt94 dX11_init_67 (by decide) nt_45099 (by decide)
theorem s94_70 : aW d 94 70 L (.ref o :: S) h Q = aW d 94 71 L (.ref o :: .ref o :: S) h Q := ax_dupa mt94 dX11_init_70
theorem s94_71 : aW (d + 1) 94 71 L (.ref o :: [.ref q0, .ref q1]) h Q = aM d 13 (.ref o :: []) h (fun v h1 => aW (d + 1) 94 74 L (ab_ps v [.ref q0, .ref q1]) h1 Q) := ax_invi mt94 dX11_init_71 (by decide) ct_45101 (.inr rfl) mt13 ⟨⟨Nat.le_of_ble_eq_true rfl, Nat.le_of_ble_eq_true rfl, Nat.le_of_ble_eq_true rfl⟩, rfl, rfl⟩
theorem s94_74 (hT : gT h o = some (13, 14)) : aW d 94 74 L (.ref o2 :: .ref o :: S) h Q = aW d 94 77 L S (pR h o 5 (.ref o2)) Q := ax_puta mt94 dX11_init_74 (by decide) ft_45102 (fun q => q.2 ⟨rfl, rfl, rfl⟩) fp_45102 hT
theorem s94_77 : aW d 94 77 [.ref o, l1] S h Q = aW d 94 78 [.ref o, l1] (.ref o :: S) h Q := ax_aload_n mt94 dX11_init_77 rfl
theorem s94_78 : aW d 94 78 L S h Q = aW d 94 80 L (.int (nI 12) :: S) h Q := ax_bipush mt94 dX11_init_78 bp_12
theorem s94_80 (hn : ¬ a < 0 ∧ a.toNatClampNeg ≤ 100000) : aW d 94 80 L (.int a :: S) h Q = aW d 94 82 L (.ref h.1.length :: S) (nO h 0 a.toNatClampNeg) Q := ax_newi mt94 dX11_init_80 hn
theorem s94_82 (hT : gT h o = some (13, 14)) : aW d 94 82 L (.ref o2 :: .ref o :: S) h Q = aW d 94 85 L S (pR h o 6 (.ref o2)) Q := ax_puta mt94 dX11_init_82 (by decide) ft_45106 (fun q => q.2 ⟨rfl, rfl, rfl⟩) fp_45106 hT
theorem s94_85 : aW d 94 85 [.ref o, l1] S h Q = aW d 94 86 [.ref o, l1] (.ref o :: S) h Q := ax_aload_n mt94 dX11_init_85 rfl
theorem s94_86 : aW d 94 86 L S h Q = aW d 94 89 L (.ref h.1.length :: S) (nO h 10 3) Q := ax_new mt94 dX11_init_86 (by decide) nt_45110 (by decide)
theorem s94_89 : aW d 94 89 L (.ref o :: S) h Q = aW d 94 90 L (.ref o :: .ref o :: S) h Q := ax_dupa mt94 dX11_init_89
theorem s94_90 : aW (d + 1) 94 90 L (.ref o :: [.ref q0, .ref q1]) h Q = aM d 71 (.ref o :: []) h (fun v h1 => aW (d + 1) 94 93 L (ab_ps v [.ref q0, .ref q1]) h1 Q) := ax_invi mt94 dX11_init_90 (by decide) ct_45112 (.inr rfl) mt71 ⟨⟨Nat.le_of_ble_eq_true rfl, Nat.le_of_ble_eq_true rfl, Nat.le_of_ble_eq_true rfl⟩, rfl, rfl⟩
theorem s94_93 (hT : gT h o = some (13, 14)) : aW d 94 93 L (.ref o2 :: .ref o :: S) h Q = aW d 94 96 L S (pR h o 7 (.ref o2)) Q := ax_puta mt94 dX11_init_93 (by decide) ft_45113 (fun q => q.2 ⟨rfl, rfl, rfl⟩) fp_45113 hT
theorem s94_96 : aW d 94 96 [.ref o, l1] S h Q = aW d 94 97 [.ref o, l1] (.ref o :: S) h Q := ax_aload_n mt94 dX11_init_96 rfl
theorem s94_97 : aW d 94 97 L S h Q = aW d 94 100 L (.ref h.1.length :: S) (nO h 7 3) Q := ax_new mt94 dX11_init_97 (by decide) nt_45117 (by decide)
theorem s94_100 : aW d 94 100 L (.ref o :: S) h Q = aW d 94 101 L (.ref o :: .ref o :: S) h Q := ax_dupa mt94 dX11_init_100
theorem s94_101 : aW (d + 1) 94 101 L (.ref o :: [.ref q0, .ref q1]) h Q = aM d 37 (.ref o :: []) h (fun v h1 => aW (d + 1) 94 104 L (ab_ps v [.ref q0, .ref q1]) h1 Q) := ax_invi mt94 dX11_init_101 (by decide) ct_45119 (.inr rfl) mt37 ⟨⟨Nat.le_of_ble_eq_true rfl, Nat.le_of_ble_eq_true rfl, Nat.le_of_ble_eq_true rfl⟩, rfl, rfl⟩
theorem s94_104 (hT : gT h o = some (13, 14)) : aW d 94 104 L (.ref o2 :: .ref o :: S) h Q = aW d 94 107 L S (pR h o 8 (.ref o2)) Q := ax_puta mt94 dX11_init_104 (by decide) ft_45120 (fun q => q.2 ⟨rfl, rfl, rfl⟩) fp_45120 hT
theorem s94_107 : aW d 94 107 [.ref o, l1] S h Q = aW d 94 108 [.ref o, l1] (.ref o :: S) h Q := ax_aload_n mt94 dX11_init_107 rfl
theorem s94_108 : aW d 94 108 L S h Q = aW d 94 111 L (.ref h.1.length :: S) (nO h 3 5) Q := ax_new mt94 dX11_init_108 (by decide) nt_45124 (by decide)
theorem s94_111 : aW d 94 111 L (.ref o :: S) h Q = aW d 94 112 L (.ref o :: .ref o :: S) h Q := ax_dupa mt94 dX11_init_111
theorem s94_112 : aW (d + 1) 94 112 L (.ref o :: [.ref q0, .ref q1]) h Q = aM d 0 (.ref o :: []) h (fun v h1 => aW (d + 1) 94 115 L (ab_ps v [.ref q0, .ref q1]) h1 Q) := ax_invi mt94 dX11_init_112 (by decide) ct_45126 (.inr rfl) mt0 ⟨⟨Nat.le_of_ble_eq_true rfl, Nat.le_of_ble_eq_true rfl, Nat.le_of_ble_eq_true rfl⟩, rfl, rfl⟩
theorem s94_115 (hT : gT h o = some (13, 14)) : aW d 94 115 L (.ref o2 :: .ref o :: S) h Q = aW d 94 118 L S (pR h o 9 (.ref o2)) Q := ax_puta mt94 dX11_init_115 (by decide) ft_45127 (fun q => q.2 ⟨rfl, rfl, rfl⟩) fp_45127 hT
theorem s94_118 : aW d 94 118 [.ref o, l1] S h Q = aW d 94 119 [.ref o, l1] (.ref o :: S) h Q := ax_aload_n mt94 dX11_init_118 rfl
theorem s94_119 : aW d 94 119 L S h Q = aW d 94 122 L (.ref h.1.length :: S) (nO h 3 5) Q := ax_new mt94 dX11_init_119 (by decide) nt_45124 (by decide)
theorem s94_122 : aW d 94 122 L (.ref o :: S) h Q = aW d 94 123 L (.ref o :: .ref o :: S) h Q := ax_dupa mt94 dX11_init_122
theorem s94_123 : aW (d + 1) 94 123 L (.ref o :: [.ref q0, .ref q1]) h Q = aM d 0 (.ref o :: []) h (fun v h1 => aW (d + 1) 94 126 L (ab_ps v [.ref q0, .ref q1]) h1 Q) := ax_invi mt94 dX11_init_123 (by decide) ct_45126 (.inr rfl) mt0 ⟨⟨Nat.le_of_ble_eq_true rfl, Nat.le_of_ble_eq_true rfl, Nat.le_of_ble_eq_true rfl⟩, rfl, rfl⟩
theorem s94_126 (hT : gT h o = some (13, 14)) : aW d 94 126 L (.ref o2 :: .ref o :: S) h Q = aW d 94 129 L S (pR h o 10 (.ref o2)) Q := ax_puta mt94 dX11_init_126 (by decide) ft_45131 (fun q => q.2 ⟨rfl, rfl, rfl⟩) fp_45131 hT
theorem s94_129 : aW d 94 129 [.ref o, l1] S h Q = aW d 94 130 [.ref o, l1] (.ref o :: S) h Q := ax_aload_n mt94 dX11_init_129 rfl
theorem s94_130 : aW d 94 130 L S h Q = aW d 94 131 L (.int (nI 4) :: S) h Q := ax_iconst mt94 dX11_init_130 ic_4
theorem s94_131 (hn : ¬ a < 0 ∧ a.toNatClampNeg ≤ 100000) : aW d 94 131 L (.int a :: S) h Q = aW d 94 134 L (.ref h.1.length :: S) (nO h 2 a.toNatClampNeg) Q := ax_newq mt94 dX11_init_131 (by decide) nt_45134 hn
theorem s94_134 (hT : gT h o = some (13, 14)) : aW d 94 134 L (.ref o2 :: .ref o :: S) h Q = aW d 94 137 L S (pR h o 12 (.ref o2)) Q := ax_puta mt94 dX11_init_134 (by decide) ft_45136 (fun q => q.2 ⟨rfl, rfl, rfl⟩) fp_45136 hT
theorem s94_137 : aW d 94 137 L S h Q = aW d 94 138 L (.int (nI 0) :: S) h Q := ax_iconst mt94 dX11_init_137 ic_0
theorem s94_138 : aW d 94 138 [l0, l1] (.int a :: S) h Q = aW d 94 139 [l0, .int a] S h Q := ax_istore_n mt94 dX11_init_138 (Nat.le_of_ble_eq_true rfl) rfl
theorem s94_139 : aW d 94 139 [l0, .int a] S h Q = aW d 94 140 [l0, .int a] (.int a :: S) h Q := ax_iload_n mt94 dX11_init_139 rfl
theorem s94_140 : aW d 94 140 L S h Q = aW d 94 141 L (.int (nI 4) :: S) h Q := ax_iconst mt94 dX11_init_140 ic_4
theorem s94_141 : aW d 94 141 L (.int b :: .int a :: S) h Q = (if a < b then aW d 94 144 L S h Q else aW d 94 163 L S h Q) := ax_icmp_ge mt94 dX11_init_141 (by decide)
theorem s94_144 : aW d 94 144 [.ref o, l1] S h Q = aW d 94 145 [.ref o, l1] (.ref o :: S) h Q := ax_aload_n mt94 dX11_init_144 rfl
theorem s94_145 (hT : gT h o = some (13, 14)) : aW d 94 145 L (.ref o :: S) h Q = (isRf (gR h o 12) = true ∧ aW d 94 148 L (gR h o 12 :: S) h Q) := ax_geta mt94 dX11_init_145 (by decide) ft_45136 fk_45136 hT
theorem s94_148 : aW d 94 148 [l0, .int a] S h Q = aW d 94 149 [l0, .int a] (.int a :: S) h Q := ax_iload_n mt94 dX11_init_148 rfl
theorem s94_149 : aW d 94 149 L S h Q = aW d 94 152 L (.ref h.1.length :: S) (nO h 11 3) Q := ax_new mt94 dX11_init_149 (by decide) nt_45134 (by decide)
theorem s94_152 : aW d 94 152 L (.ref o :: S) h Q = aW d 94 153 L (.ref o :: .ref o :: S) h Q := ax_dupa mt94 dX11_init_152
theorem s94_153 : aW (d + 1) 94 153 L (.ref o :: [.ref q0, .int y1, .ref q2]) h Q = aM d 77 (.ref o :: []) h (fun v h1 => aW (d + 1) 94 156 L (ab_ps v [.ref q0, .int y1, .ref q2]) h1 Q) := ax_invi mt94 dX11_init_153 (by decide) ct_45140 (.inr rfl) mt77 ⟨⟨Nat.le_of_ble_eq_true rfl, Nat.le_of_ble_eq_true rfl, Nat.le_of_ble_eq_true rfl⟩, rfl, rfl⟩
theorem s94_156 {n n2 : Nat} (hT : gT h o = some (2, n)) (hT2 : gT h o2 = some (11, n2)) (hi : inb a n) : aW d 94 156 L (.ref o2 :: .int a :: .ref o :: S) h Q = aW d 94 157 L S (pR h o a.toNatClampNeg (.ref o2)) Q := ax_aast mt94 dX11_init_156 hT hT2 hi
theorem s94_157 : aW d 94 157 [l0, .int a] S h Q = aW d 94 160 [l0, .int (a + nI 1)] S h Q := ax_iinc mt94 dX11_init_157 rfl ic_1 rfl
theorem s94_160 : aW d 94 160 L S h Q = aW d 94 139 L S h Q := ax_goto mt94 dX11_init_160 (by decide)
theorem s94_163 : aW d 94 163 [.ref o, l1] S h Q = aW d 94 164 [.ref o, l1] (.ref o :: S) h Q := ax_aload_n mt94 dX11_init_163 rfl
theorem s94_164 (hT : gT h o = some (13, 14)) : aW (d + 1) 94 164 L (.ref o :: []) h Q = aM d 133 (.ref o :: []) h (fun v h1 => aW (d + 1) 94 167 L (ab_ps v []) h1 Q) := ax_invv mt94 dX11_init_164 (by decide) ct_45141 (.inl rfl) mt133 ⟨⟨Nat.le_of_ble_eq_true rfl, Nat.le_of_ble_eq_true rfl, Nat.le_of_ble_eq_true rfl⟩, rfl, rfl, rfl⟩ hT
theorem s94_167 : aW d 94 167 L [] h Q = Q none h := ax_retv mt94 dX11_init_167 rfl
-- method 95: BufferRoom.feed(JI)I
theorem dX11_feed_0 : decode cX11_feed 0 = .ok (.iload_n 3, 1) := by decide +kernel
theorem dX11_feed_1 : decode cX11_feed 1 = .ok (.iconst 1, 1) := by decide +kernel
theorem dX11_feed_2 : decode cX11_feed 2 = .ok (.if_icmp .lt 9, 3) := by decide +kernel
theorem dX11_feed_5 : decode cX11_feed 5 = .ok (.iload_n 3, 1) := by decide +kernel
theorem dX11_feed_6 : decode cX11_feed 6 = .ok (.bipush 8, 2) := by decide +kernel
theorem dX11_feed_8 : decode cX11_feed 8 = .ok (.if_icmp .le 6, 3) := by decide +kernel
theorem dX11_feed_11 : decode cX11_feed 11 = .ok (.bipush (-2), 2) := by decide +kernel
theorem dX11_feed_13 : decode cX11_feed 13 = .ok (.ireturn, 1) := by decide +kernel
theorem dX11_feed_14 : decode cX11_feed 14 = .ok (.aload_n 0, 1) := by decide +kernel
theorem dX11_feed_15 : decode cX11_feed 15 = .ok (.getfield 10, 3) := by decide +kernel
theorem dX11_feed_18 : decode cX11_feed 18 = .ok (.getfield 88, 3) := by decide +kernel
theorem dX11_feed_21 : decode cX11_feed 21 = .ok (.iload_n 3, 1) := by decide +kernel
theorem dX11_feed_22 : decode cX11_feed 22 = .ok (.iadd, 1) := by decide +kernel
theorem dX11_feed_23 : decode cX11_feed 23 = .ok (.sipush 240, 3) := by decide +kernel
theorem dX11_feed_26 : decode cX11_feed 26 = .ok (.if_icmp .le 6, 3) := by decide +kernel
theorem dX11_feed_29 : decode cX11_feed 29 = .ok (.bipush (-4), 2) := by decide +kernel
theorem dX11_feed_31 : decode cX11_feed 31 = .ok (.ireturn, 1) := by decide +kernel
theorem dX11_feed_32 : decode cX11_feed 32 = .ok (.aload_n 0, 1) := by decide +kernel
theorem dX11_feed_33 : decode cX11_feed 33 = .ok (.getfield 10, 3) := by decide +kernel
theorem dX11_feed_36 : decode cX11_feed 36 = .ok (.lload_n 1, 1) := by decide +kernel
theorem dX11_feed_37 : decode cX11_feed 37 = .ok (.iload_n 3, 1) := by decide +kernel
theorem dX11_feed_38 : decode cX11_feed 38 = .ok (.invokevirtual 92, 3) := by decide +kernel
theorem dX11_feed_41 : decode cX11_feed 41 = .ok (.aload_n 0, 1) := by decide +kernel
theorem dX11_feed_42 : decode cX11_feed 42 = .ok (.getfield 10, 3) := by decide +kernel
theorem dX11_feed_45 : decode cX11_feed 45 = .ok (.getfield 88, 3) := by decide +kernel
theorem dX11_feed_48 : decode cX11_feed 48 = .ok (.ireturn, 1) := by decide +kernel
theorem s95_0 : aW d 95 0 [l0, l1, l2, .int a] S h Q = aW d 95 1 [l0, l1, l2, .int a] (.int a :: S) h Q := ax_iload_n mt95 dX11_feed_0 rfl
theorem s95_1 : aW d 95 1 L S h Q = aW d 95 2 L (.int (nI 1) :: S) h Q := ax_iconst mt95 dX11_feed_1 ic_1
theorem s95_2 : aW d 95 2 L (.int b :: .int a :: S) h Q = (if a < b then aW d 95 11 L S h Q else aW d 95 5 L S h Q) := ax_icmp_lt mt95 dX11_feed_2 (by decide)
theorem s95_5 : aW d 95 5 [l0, l1, l2, .int a] S h Q = aW d 95 6 [l0, l1, l2, .int a] (.int a :: S) h Q := ax_iload_n mt95 dX11_feed_5 rfl
theorem s95_6 : aW d 95 6 L S h Q = aW d 95 8 L (.int (nI 8) :: S) h Q := ax_bipush mt95 dX11_feed_6 bp_8
theorem s95_8 : aW d 95 8 L (.int b :: .int a :: S) h Q = (if b < a then aW d 95 11 L S h Q else aW d 95 14 L S h Q) := ax_icmp_le mt95 dX11_feed_8 (by decide)
theorem s95_14 : aW d 95 14 [.ref o, l1, l2, l3] S h Q = aW d 95 15 [.ref o, l1, l2, l3] (.ref o :: S) h Q := ax_aload_n mt95 dX11_feed_14 rfl
theorem s95_15 (hT : gT h o = some (13, 14)) : aW d 95 15 L (.ref o :: S) h Q = (isRf (gR h o 0) = true ∧ aW d 95 18 L (gR h o 0 :: S) h Q) := ax_geta mt95 dX11_feed_15 (by decide) ft_45066 fk_45066 hT
theorem s95_18 (hT : gT h o = some (9, 5)) : aW d 95 18 L (.ref o :: S) h Q = aW d 95 21 L (.int (gI h o 1) :: S) h Q := ax_geti mt95 dX11_feed_18 (by decide) ft_45144 fk_45144 hT
theorem s95_21 : aW d 95 21 [l0, l1, l2, .int a] S h Q = aW d 95 22 [l0, l1, l2, .int a] (.int a :: S) h Q := ax_iload_n mt95 dX11_feed_21 rfl
theorem s95_22 : aW d 95 22 L (.int b :: .int a :: S) h Q = aW d 95 23 L (.int (a + b) :: S) h Q := ax_iadd mt95 dX11_feed_22
theorem s95_23 : aW d 95 23 L S h Q = aW d 95 26 L (.int (nI 240) :: S) h Q := ax_sipush mt95 dX11_feed_23 sp_240
theorem s95_26 : aW d 95 26 L (.int b :: .int a :: S) h Q = (if b < a then aW d 95 29 L S h Q else aW d 95 32 L S h Q) := ax_icmp_le mt95 dX11_feed_26 (by decide)
theorem s95_29 : aW d 95 29 L S h Q = aW d 95 31 L (.int ((-4)) :: S) h Q := ax_bipush mt95 dX11_feed_29 bp_m4
theorem s95_31 : aW d 95 31 L [.int a] h Q = Q (some (.int a)) h := ax_reti mt95 dX11_feed_31 rfl
theorem s95_32 : aW d 95 32 [.ref o, l1, l2, l3] S h Q = aW d 95 33 [.ref o, l1, l2, l3] (.ref o :: S) h Q := ax_aload_n mt95 dX11_feed_32 rfl
theorem s95_33 (hT : gT h o = some (13, 14)) : aW d 95 33 L (.ref o :: S) h Q = (isRf (gR h o 0) = true ∧ aW d 95 36 L (gR h o 0 :: S) h Q) := ax_geta mt95 dX11_feed_33 (by decide) ft_45066 fk_45066 hT
theorem s95_36 : aW d 95 36 [l0, .long u, .retAddr 1, l3] S h Q = aW d 95 37 [l0, .long u, .retAddr 1, l3] (.long u :: S) h Q := ax_lload_n mt95 dX11_feed_36 rfl rfl
theorem s95_37 : aW d 95 37 [l0, l1, l2, .int a] S h Q = aW d 95 38 [l0, l1, l2, .int a] (.int a :: S) h Q := ax_iload_n mt95 dX11_feed_37 rfl
theorem s95_38 (hT : gT h o = some (9, 5)) : aW (d + 1) 95 38 L (.int x1 :: .long u0 :: .ref o :: []) h Q = aM d 56 (.ref o :: [.long u0, .int x1]) h (fun v h1 => aW (d + 1) 95 41 L (ab_ps v []) h1 Q) := ax_invv mt95 dX11_feed_38 (by decide) ct_45148 (.inl rfl) mt56 ⟨⟨Nat.le_of_ble_eq_true rfl, Nat.le_of_ble_eq_true rfl, Nat.le_of_ble_eq_true rfl⟩, rfl, rfl, rfl⟩ hT
theorem s95_41 : aW d 95 41 [.ref o, l1, l2, l3] S h Q = aW d 95 42 [.ref o, l1, l2, l3] (.ref o :: S) h Q := ax_aload_n mt95 dX11_feed_41 rfl
theorem s95_42 (hT : gT h o = some (13, 14)) : aW d 95 42 L (.ref o :: S) h Q = (isRf (gR h o 0) = true ∧ aW d 95 45 L (gR h o 0 :: S) h Q) := ax_geta mt95 dX11_feed_42 (by decide) ft_45066 fk_45066 hT
theorem s95_45 (hT : gT h o = some (9, 5)) : aW d 95 45 L (.ref o :: S) h Q = aW d 95 48 L (.int (gI h o 1) :: S) h Q := ax_geti mt95 dX11_feed_45 (by decide) ft_45144 fk_45144 hT
theorem s95_48 : aW d 95 48 L [.int a] h Q = Q (some (.int a)) h := ax_reti mt95 dX11_feed_48 rfl
theorem s95_11 : aW d 95 11 L S h Q = aW d 95 13 L (.int ((-2)) :: S) h Q := ax_bipush mt95 dX11_feed_11 bp_m2
theorem s95_13 : aW d 95 13 L [.int a] h Q = Q (some (.int a)) h := ax_reti mt95 dX11_feed_13 rfl
-- method 96: BufferRoom.program()I
theorem dX11_program_0 : decode cX11_program 0 = .ok (.aload_n 0, 1) := by decide +kernel
theorem dX11_program_1 : decode cX11_program 1 = .ok (.getfield 10, 3) := by decide +kernel
theorem dX11_program_4 : decode cX11_program 4 = .ok (.aload_n 0, 1) := by decide +kernel
theorem dX11_program_5 : decode cX11_program 5 = .ok (.getfield 23, 3) := by decide +kernel
theorem dX11_program_8 : decode cX11_program 8 = .ok (.invokevirtual 96, 3) := by decide +kernel
theorem dX11_program_11 : decode cX11_program 11 = .ok (.istore_n 1, 1) := by decide +kernel
theorem dX11_program_12 : decode cX11_program 12 = .ok (.aload_n 0, 1) := by decide +kernel
theorem dX11_program_13 : decode cX11_program 13 = .ok (.getfield 10, 3) := by decide +kernel
theorem dX11_program_16 : decode cX11_program 16 = .ok (.iconst 0, 1) := by decide +kernel
theorem dX11_program_17 : decode cX11_program 17 = .ok (.putfield 88, 3) := by decide +kernel
theorem dX11_program_20 : decode cX11_program 20 = .ok (.iload_n 1, 1) := by decide +kernel
theorem dX11_program_21 : decode cX11_program 21 = .ok (.ifCond .lt 8, 3) := by decide +kernel
theorem dX11_program_24 : decode cX11_program 24 = .ok (.bipush (-100), 2) := by decide +kernel
theorem dX11_program_26 : decode cX11_program 26 = .ok (.iload_n 1, 1) := by decide +kernel
theorem dX11_program_27 : decode cX11_program 27 = .ok (.isub, 1) := by decide +kernel
theorem dX11_program_28 : decode cX11_program 28 = .ok (.ireturn, 1) := by decide +kernel
theorem dX11_program_29 : decode cX11_program 29 = .ok (.aload_n 0, 1) := by decide +kernel
theorem dX11_program_30 : decode cX11_program 30 = .ok (.getfield 19, 3) := by decide +kernel
theorem dX11_program_33 : decode cX11_program 33 = .ok (.astore_n 2, 1) := by decide +kernel
theorem dX11_program_34 : decode cX11_program 34 = .ok (.aload_n 0, 1) := by decide +kernel
theorem dX11_program_35 : decode cX11_program 35 = .ok (.aload_n 0, 1) := by decide +kernel
theorem dX11_program_36 : decode cX11_program 36 = .ok (.getfield 23, 3) := by decide +kernel
theorem dX11_program_39 : decode cX11_program 39 = .ok (.putfield 19, 3) := by decide +kernel
theorem dX11_program_42 : decode cX11_program 42 = .ok (.aload_n 0, 1) := by decide +kernel
theorem dX11_program_43 : decode cX11_program 43 = .ok (.aload_n 2, 1) := by decide +kernel
theorem dX11_program_44 : decode cX11_program 44 = .ok (.putfield 23, 3) := by decide +kernel
theorem dX11_program_47 : decode cX11_program 47 = .ok (.aload_n 0, 1) := by decide +kernel
theorem dX11_program_48 : decode cX11_program 48 = .ok (.dup, 1) := by decide +kernel
theorem dX11_program_49 : decode cX11_program 49 = .ok (.getfield 100, 3) := by decide +kernel
theorem dX11_program_52 : decode cX11_program 52 = .ok (.iconst 1, 1) := by decide +kernel
theorem dX11_program_53 : decode cX11_program 53 = .ok (.iadd, 1) := by decide +kernel
theorem dX11_program_54 : decode cX11_program 54 = .ok (.putfield 100, 3) := by decide +kernel
theorem dX11_program_57 : decode cX11_program 57 = .ok (.aload_n 0, 1) := by decide +kernel
theorem dX11_program_58 : decode cX11_program 58 = .ok (.invokevirtual 85, 3) := by decide +kernel
theorem dX11_program_61 : decode cX11_program 61 = .ok (.aload_n 0, 1) := by decide +kernel
theorem dX11_program_62 : decode cX11_program 62 = .ok (.getfield 19, 3) := by decide +kernel
theorem dX11_program_65 : decode cX11_program 65 = .ok (.getfield 103, 3) := by decide +kernel
theorem dX11_program_68 : decode cX11_program 68 = .ok (.ireturn, 1) := by decide +kernel
theorem s96_0 : aW d 96 0 [.ref o, l1, l2] S h Q = aW d 96 1 [.ref o, l1, l2] (.ref o :: S) h Q := ax_aload_n mt96 dX11_program_0 rfl
theorem s96_1 (hT : gT h o = some (13, 14)) : aW d 96 1 L (.ref o :: S) h Q = (isRf (gR h o 0) = true ∧ aW d 96 4 L (gR h o 0 :: S) h Q) := ax_geta mt96 dX11_program_1 (by decide) ft_45066 fk_45066 hT
theorem s96_4 : aW d 96 4 [.ref o, l1, l2] S h Q = aW d 96 5 [.ref o, l1, l2] (.ref o :: S) h Q := ax_aload_n mt96 dX11_program_4 rfl
theorem s96_5 (hT : gT h o = some (13, 14)) : aW d 96 5 L (.ref o :: S) h Q = (isRf (gR h o 2) = true ∧ aW d 96 8 L (gR h o 2 :: S) h Q) := ax_geta mt96 dX11_program_5 (by decide) ft_45079 fk_45079 hT
theorem s96_8 (hT : gT h o = some (9, 5)) : aW (d + 1) 96 8 L (.ref p0 :: .ref o :: []) h Q = aM d 57 (.ref o :: [.ref p0]) h (fun v h1 => aW (d + 1) 96 11 L (ab_ps v []) h1 Q) := ax_invv mt96 dX11_program_8 (by decide) ct_45152 (.inl rfl) mt57 ⟨⟨Nat.le_of_ble_eq_true rfl, Nat.le_of_ble_eq_true rfl, Nat.le_of_ble_eq_true rfl⟩, rfl, rfl, rfl⟩ hT
theorem s96_11 : aW d 96 11 [l0, l1, l2] (.int a :: S) h Q = aW d 96 12 [l0, .int a, l2] S h Q := ax_istore_n mt96 dX11_program_11 (Nat.le_of_ble_eq_true rfl) rfl
theorem s96_12 : aW d 96 12 [.ref o, l1, l2] S h Q = aW d 96 13 [.ref o, l1, l2] (.ref o :: S) h Q := ax_aload_n mt96 dX11_program_12 rfl
theorem s96_13 (hT : gT h o = some (13, 14)) : aW d 96 13 L (.ref o :: S) h Q = (isRf (gR h o 0) = true ∧ aW d 96 16 L (gR h o 0 :: S) h Q) := ax_geta mt96 dX11_program_13 (by decide) ft_45066 fk_45066 hT
theorem s96_16 : aW d 96 16 L S h Q = aW d 96 17 L (.int (nI 0) :: S) h Q := ax_iconst mt96 dX11_program_16 ic_0
theorem s96_17 (hT : gT h o = some (9, 5)) : aW d 96 17 L (.int a :: .ref o :: S) h Q = aW d 96 20 L S (pI h o 1 a) Q := ax_puti mt96 dX11_program_17 (by decide) ft_45144 (fun q => fn_45144 q.1) fp_45144 hT
theorem s96_20 : aW d 96 20 [l0, .int a, l2] S h Q = aW d 96 21 [l0, .int a, l2] (.int a :: S) h Q := ax_iload_n mt96 dX11_program_20 rfl
theorem s96_21 : aW d 96 21 L (.int a :: S) h Q = (if a < 0 then aW d 96 29 L S h Q else aW d 96 24 L S h Q) := ax_if_lt mt96 dX11_program_21 (by decide)
theorem s96_24 : aW d 96 24 L S h Q = aW d 96 26 L (.int ((-100)) :: S) h Q := ax_bipush mt96 dX11_program_24 bp_m100
theorem s96_26 : aW d 96 26 [l0, .int a, l2] S h Q = aW d 96 27 [l0, .int a, l2] (.int a :: S) h Q := ax_iload_n mt96 dX11_program_26 rfl
theorem s96_27 : aW d 96 27 L (.int b :: .int a :: S) h Q = aW d 96 28 L (.int (a - b) :: S) h Q := ax_isub mt96 dX11_program_27
theorem s96_28 : aW d 96 28 L [.int a] h Q = Q (some (.int a)) h := ax_reti mt96 dX11_program_28 rfl
theorem s96_29 : aW d 96 29 [.ref o, l1, l2] S h Q = aW d 96 30 [.ref o, l1, l2] (.ref o :: S) h Q := ax_aload_n mt96 dX11_program_29 rfl
theorem s96_30 (hT : gT h o = some (13, 14)) : aW d 96 30 L (.ref o :: S) h Q = (isRf (gR h o 1) = true ∧ aW d 96 33 L (gR h o 1 :: S) h Q) := ax_geta mt96 dX11_program_30 (by decide) ft_45075 fk_45075 hT
theorem s96_33 : aW d 96 33 [l0, l1, l2] (.ref o :: S) h Q = aW d 96 34 [l0, l1, .ref o] S h Q := ax_astore_n mt96 dX11_program_33 (Nat.le_of_ble_eq_true rfl) rfl
theorem s96_34 : aW d 96 34 [.ref o, l1, l2] S h Q = aW d 96 35 [.ref o, l1, l2] (.ref o :: S) h Q := ax_aload_n mt96 dX11_program_34 rfl
theorem s96_35 : aW d 96 35 [.ref o, l1, l2] S h Q = aW d 96 36 [.ref o, l1, l2] (.ref o :: S) h Q := ax_aload_n mt96 dX11_program_35 rfl
theorem s96_36 (hT : gT h o = some (13, 14)) : aW d 96 36 L (.ref o :: S) h Q = (isRf (gR h o 2) = true ∧ aW d 96 39 L (gR h o 2 :: S) h Q) := ax_geta mt96 dX11_program_36 (by decide) ft_45079 fk_45079 hT
theorem s96_39 (hT : gT h o = some (13, 14)) : aW d 96 39 L (.ref o2 :: .ref o :: S) h Q = aW d 96 42 L S (pR h o 1 (.ref o2)) Q := ax_puta mt96 dX11_program_39 (by decide) ft_45075 (fun q => fn_45075 q.1) fp_45075 hT
theorem s96_42 : aW d 96 42 [.ref o, l1, l2] S h Q = aW d 96 43 [.ref o, l1, l2] (.ref o :: S) h Q := ax_aload_n mt96 dX11_program_42 rfl
theorem s96_43 : aW d 96 43 [l0, l1, .ref o] S h Q = aW d 96 44 [l0, l1, .ref o] (.ref o :: S) h Q := ax_aload_n mt96 dX11_program_43 rfl
theorem s96_44 (hT : gT h o = some (13, 14)) : aW d 96 44 L (.ref o2 :: .ref o :: S) h Q = aW d 96 47 L S (pR h o 2 (.ref o2)) Q := ax_puta mt96 dX11_program_44 (by decide) ft_45079 (fun q => fn_45079 q.1) fp_45079 hT
theorem s96_47 : aW d 96 47 [.ref o, l1, l2] S h Q = aW d 96 48 [.ref o, l1, l2] (.ref o :: S) h Q := ax_aload_n mt96 dX11_program_47 rfl
theorem s96_48 : aW d 96 48 L (.ref o :: S) h Q = aW d 96 49 L (.ref o :: .ref o :: S) h Q := ax_dupa mt96 dX11_program_48
theorem s96_49 (hT : gT h o = some (13, 14)) : aW d 96 49 L (.ref o :: S) h Q = aW d 96 52 L (.int (gI h o 13) :: S) h Q := ax_geti mt96 dX11_program_49 (by decide) ft_45156 fk_45156 hT
theorem s96_52 : aW d 96 52 L S h Q = aW d 96 53 L (.int (nI 1) :: S) h Q := ax_iconst mt96 dX11_program_52 ic_1
theorem s96_53 : aW d 96 53 L (.int b :: .int a :: S) h Q = aW d 96 54 L (.int (a + b) :: S) h Q := ax_iadd mt96 dX11_program_53
theorem s96_54 (hT : gT h o = some (13, 14)) : aW d 96 54 L (.int a :: .ref o :: S) h Q = aW d 96 57 L S (pI h o 13 a) Q := ax_puti mt96 dX11_program_54 (by decide) ft_45156 (fun q => fn_45156 q.1) fp_45156 hT
theorem s96_57 : aW d 96 57 [.ref o, l1, l2] S h Q = aW d 96 58 [.ref o, l1, l2] (.ref o :: S) h Q := ax_aload_n mt96 dX11_program_57 rfl
theorem s96_58 (hT : gT h o = some (13, 14)) : aW (d + 1) 96 58 L (.ref o :: []) h Q = aM d 133 (.ref o :: []) h (fun v h1 => aW (d + 1) 96 61 L (ab_ps v []) h1 Q) := ax_invv mt96 dX11_program_58 (by decide) ct_45141 (.inl rfl) mt133 ⟨⟨Nat.le_of_ble_eq_true rfl, Nat.le_of_ble_eq_true rfl, Nat.le_of_ble_eq_true rfl⟩, rfl, rfl, rfl⟩ hT
theorem s96_61 : aW d 96 61 [.ref o, l1, l2] S h Q = aW d 96 62 [.ref o, l1, l2] (.ref o :: S) h Q := ax_aload_n mt96 dX11_program_61 rfl
theorem s96_62 (hT : gT h o = some (13, 14)) : aW d 96 62 L (.ref o :: S) h Q = (isRf (gR h o 1) = true ∧ aW d 96 65 L (gR h o 1 :: S) h Q) := ax_geta mt96 dX11_program_62 (by decide) ft_45075 fk_45075 hT
theorem s96_65 (hT : gT h o = some (8, 12)) : aW d 96 65 L (.ref o :: S) h Q = aW d 96 68 L (.int (gI h o 6) :: S) h Q := ax_geti mt96 dX11_program_65 (by decide) ft_45159 fk_45159 hT
theorem s96_68 : aW d 96 68 L [.int a] h Q = Q (some (.int a)) h := ax_reti mt96 dX11_program_68 rfl
-- method 97: BufferRoom.letter(II)I
theorem dX11_letter_0 : decode cX11_letter 0 = .ok (.iload_n 1, 1) := by decide +kernel
theorem dX11_letter_1 : decode cX11_letter 1 = .ok (.ifCond .lt 8, 3) := by decide +kernel
theorem dX11_letter_4 : decode cX11_letter 4 = .ok (.iload_n 1, 1) := by decide +kernel
theorem dX11_letter_5 : decode cX11_letter 5 = .ok (.iconst 4, 1) := by decide +kernel
theorem dX11_letter_6 : decode cX11_letter 6 = .ok (.if_icmp .lt 5, 3) := by decide +kernel
theorem dX11_letter_9 : decode cX11_letter 9 = .ok (.iconst (-1), 1) := by decide +kernel
theorem dX11_letter_10 : decode cX11_letter 10 = .ok (.ireturn, 1) := by decide +kernel
theorem dX11_letter_11 : decode cX11_letter 11 = .ok (.iload_n 2, 1) := by decide +kernel
theorem dX11_letter_12 : decode cX11_letter 12 = .ok (.ifCond .lt 9, 3) := by decide +kernel
theorem dX11_letter_15 : decode cX11_letter 15 = .ok (.iload_n 2, 1) := by decide +kernel
theorem dX11_letter_16 : decode cX11_letter 16 = .ok (.bipush 99, 2) := by decide +kernel
theorem dX11_letter_18 : decode cX11_letter 18 = .ok (.if_icmp .le 6, 3) := by decide +kernel
theorem dX11_letter_21 : decode cX11_letter 21 = .ok (.bipush (-2), 2) := by decide +kernel
theorem dX11_letter_23 : decode cX11_letter 23 = .ok (.ireturn, 1) := by decide +kernel
theorem dX11_letter_24 : decode cX11_letter 24 = .ok (.aload_n 0, 1) := by decide +kernel
theorem dX11_letter_25 : decode cX11_letter 25 = .ok (.getfield 71, 3) := by decide +kernel
theorem dX11_letter_28 : decode cX11_letter 28 = .ok (.getfield 106, 3) := by decide +kernel
theorem dX11_letter_31 : decode cX11_letter 31 = .ok (.ifCond .le 6, 3) := by decide +kernel
theorem dX11_letter_34 : decode cX11_letter 34 = .ok (.bipush (-3), 2) := by decide +kernel
theorem dX11_letter_36 : decode cX11_letter 36 = .ok (.ireturn, 1) := by decide +kernel
theorem dX11_letter_37 : decode cX11_letter 37 = .ok (.aload_n 0, 1) := by decide +kernel
theorem dX11_letter_38 : decode cX11_letter 38 = .ok (.getfield 71, 3) := by decide +kernel
theorem dX11_letter_41 : decode cX11_letter 41 = .ok (.getfield 109, 3) := by decide +kernel
theorem dX11_letter_44 : decode cX11_letter 44 = .ok (.iload_n 1, 1) := by decide +kernel
theorem dX11_letter_45 : decode cX11_letter 45 = .ok (.iaload, 1) := by decide +kernel
theorem dX11_letter_46 : decode cX11_letter 46 = .ok (.istore_n 3, 1) := by decide +kernel
theorem dX11_letter_47 : decode cX11_letter 47 = .ok (.aload_n 0, 1) := by decide +kernel
theorem dX11_letter_48 : decode cX11_letter 48 = .ok (.getfield 71, 3) := by decide +kernel
theorem dX11_letter_51 : decode cX11_letter 51 = .ok (.getfield 109, 3) := by decide +kernel
theorem dX11_letter_54 : decode cX11_letter 54 = .ok (.iload_n 1, 1) := by decide +kernel
theorem dX11_letter_55 : decode cX11_letter 55 = .ok (.iload_n 2, 1) := by decide +kernel
theorem dX11_letter_56 : decode cX11_letter 56 = .ok (.iastore, 1) := by decide +kernel
theorem dX11_letter_57 : decode cX11_letter 57 = .ok (.aload_n 0, 1) := by decide +kernel
theorem dX11_letter_58 : decode cX11_letter 58 = .ok (.invokevirtual 112, 3) := by decide +kernel
theorem dX11_letter_61 : decode cX11_letter 61 = .ok (.iload_n 3, 1) := by decide +kernel
theorem dX11_letter_62 : decode cX11_letter 62 = .ok (.ireturn, 1) := by decide +kernel
theorem s97_0 : aW d 97 0 [l0, .int a, l2, l3] S h Q = aW d 97 1 [l0, .int a, l2, l3] (.int a :: S) h Q := ax_iload_n mt97 dX11_letter_0 rfl
theorem s97_1 : aW d 97 1 L (.int a :: S) h Q = (if a < 0 then aW d 97 9 L S h Q else aW d 97 4 L S h Q) := ax_if_lt mt97 dX11_letter_1 (by decide)
theorem s97_4 : aW d 97 4 [l0, .int a, l2, l3] S h Q = aW d 97 5 [l0, .int a, l2, l3] (.int a :: S) h Q := ax_iload_n mt97 dX11_letter_4 rfl
theorem s97_5 : aW d 97 5 L S h Q = aW d 97 6 L (.int (nI 4) :: S) h Q := ax_iconst mt97 dX11_letter_5 ic_4
theorem s97_6 : aW d 97 6 L (.int b :: .int a :: S) h Q = (if a < b then aW d 97 11 L S h Q else aW d 97 9 L S h Q) := ax_icmp_lt mt97 dX11_letter_6 (by decide)
theorem s97_11 : aW d 97 11 [l0, l1, .int a, l3] S h Q = aW d 97 12 [l0, l1, .int a, l3] (.int a :: S) h Q := ax_iload_n mt97 dX11_letter_11 rfl
theorem s97_12 : aW d 97 12 L (.int a :: S) h Q = (if a < 0 then aW d 97 21 L S h Q else aW d 97 15 L S h Q) := ax_if_lt mt97 dX11_letter_12 (by decide)
theorem s97_15 : aW d 97 15 [l0, l1, .int a, l3] S h Q = aW d 97 16 [l0, l1, .int a, l3] (.int a :: S) h Q := ax_iload_n mt97 dX11_letter_15 rfl
theorem s97_16 : aW d 97 16 L S h Q = aW d 97 18 L (.int (nI 99) :: S) h Q := ax_bipush mt97 dX11_letter_16 bp_99
theorem s97_18 : aW d 97 18 L (.int b :: .int a :: S) h Q = (if b < a then aW d 97 21 L S h Q else aW d 97 24 L S h Q) := ax_icmp_le mt97 dX11_letter_18 (by decide)
theorem s97_24 : aW d 97 24 [.ref o, l1, l2, l3] S h Q = aW d 97 25 [.ref o, l1, l2, l3] (.ref o :: S) h Q := ax_aload_n mt97 dX11_letter_24 rfl
theorem s97_25 (hT : gT h o = some (13, 14)) : aW d 97 25 L (.ref o :: S) h Q = (isRf (gR h o 9) = true ∧ aW d 97 28 L (gR h o 9 :: S) h Q) := ax_geta mt97 dX11_letter_25 (by decide) ft_45127 fk_45127 hT
theorem s97_28 (hT : gT h o = some (3, 5)) : aW d 97 28 L (.ref o :: S) h Q = aW d 97 31 L (.int (gI h o 0) :: S) h Q := ax_geti mt97 dX11_letter_28 (by decide) ft_45162 fk_45162 hT
theorem s97_31 : aW d 97 31 L (.int a :: S) h Q = (if 0 < a then aW d 97 34 L S h Q else aW d 97 37 L S h Q) := ax_if_le mt97 dX11_letter_31 (by decide)
theorem s97_34 : aW d 97 34 L S h Q = aW d 97 36 L (.int ((-3)) :: S) h Q := ax_bipush mt97 dX11_letter_34 bp_m3
theorem s97_36 : aW d 97 36 L [.int a] h Q = Q (some (.int a)) h := ax_reti mt97 dX11_letter_36 rfl
theorem s97_37 : aW d 97 37 [.ref o, l1, l2, l3] S h Q = aW d 97 38 [.ref o, l1, l2, l3] (.ref o :: S) h Q := ax_aload_n mt97 dX11_letter_37 rfl
theorem s97_38 (hT : gT h o = some (13, 14)) : aW d 97 38 L (.ref o :: S) h Q = (isRf (gR h o 9) = true ∧ aW d 97 41 L (gR h o 9 :: S) h Q) := ax_geta mt97 dX11_letter_38 (by decide) ft_45127 fk_45127 hT
theorem s97_41 (hT : gT h o = some (3, 5)) : aW d 97 41 L (.ref o :: S) h Q = (isRf (gR h o 4) = true ∧ aW d 97 44 L (gR h o 4 :: S) h Q) := ax_geta mt97 dX11_letter_41 (by decide) ft_45165 fk_45165 hT
theorem s97_44 : aW d 97 44 [l0, .int a, l2, l3] S h Q = aW d 97 45 [l0, .int a, l2, l3] (.int a :: S) h Q := ax_iload_n mt97 dX11_letter_44 rfl
theorem s97_45 : aW d 97 45 L (.int a :: .ref o :: S) h Q = (inb a (aI h o) ∧ aW d 97 46 L (.int (gI h o a.toNatClampNeg) :: S) h Q) := ax_iald mt97 dX11_letter_45
theorem s97_46 : aW d 97 46 [l0, l1, l2, l3] (.int a :: S) h Q = aW d 97 47 [l0, l1, l2, .int a] S h Q := ax_istore_n mt97 dX11_letter_46 (Nat.le_of_ble_eq_true rfl) rfl
theorem s97_47 : aW d 97 47 [.ref o, l1, l2, l3] S h Q = aW d 97 48 [.ref o, l1, l2, l3] (.ref o :: S) h Q := ax_aload_n mt97 dX11_letter_47 rfl
theorem s97_48 (hT : gT h o = some (13, 14)) : aW d 97 48 L (.ref o :: S) h Q = (isRf (gR h o 9) = true ∧ aW d 97 51 L (gR h o 9 :: S) h Q) := ax_geta mt97 dX11_letter_48 (by decide) ft_45127 fk_45127 hT
theorem s97_51 (hT : gT h o = some (3, 5)) : aW d 97 51 L (.ref o :: S) h Q = (isRf (gR h o 4) = true ∧ aW d 97 54 L (gR h o 4 :: S) h Q) := ax_geta mt97 dX11_letter_51 (by decide) ft_45165 fk_45165 hT
theorem s97_54 : aW d 97 54 [l0, .int a, l2, l3] S h Q = aW d 97 55 [l0, .int a, l2, l3] (.int a :: S) h Q := ax_iload_n mt97 dX11_letter_54 rfl
theorem s97_55 : aW d 97 55 [l0, l1, .int a, l3] S h Q = aW d 97 56 [l0, l1, .int a, l3] (.int a :: S) h Q := ax_iload_n mt97 dX11_letter_55 rfl
theorem s97_56 : aW d 97 56 L (.int b :: .int a :: .ref o :: S) h Q = (inb a (aJ h o) ∧ aW d 97 57 L S (pI h o a.toNatClampNeg b) Q) := ax_iast mt97 dX11_letter_56
theorem s97_57 : aW d 97 57 [.ref o, l1, l2, l3] S h Q = aW d 97 58 [.ref o, l1, l2, l3] (.ref o :: S) h Q := ax_aload_n mt97 dX11_letter_57 rfl
theorem s97_58 (hT : gT h o = some (13, 14)) : aW (d + 1) 97 58 L (.ref o :: []) h Q = aM d 134 (.ref o :: []) h (fun v h1 => aW (d + 1) 97 61 L (ab_ps v []) h1 Q) := ax_invv mt97 dX11_letter_58 (by decide) ct_45168 (.inl rfl) mt134 ⟨⟨Nat.le_of_ble_eq_true rfl, Nat.le_of_ble_eq_true rfl, Nat.le_of_ble_eq_true rfl⟩, rfl, rfl, rfl⟩ hT
theorem s97_61 : aW d 97 61 [l0, l1, l2, .int a] S h Q = aW d 97 62 [l0, l1, l2, .int a] (.int a :: S) h Q := ax_iload_n mt97 dX11_letter_61 rfl
theorem s97_62 : aW d 97 62 L [.int a] h Q = Q (some (.int a)) h := ax_reti mt97 dX11_letter_62 rfl
theorem s97_21 : aW d 97 21 L S h Q = aW d 97 23 L (.int ((-2)) :: S) h Q := ax_bipush mt97 dX11_letter_21 bp_m2
theorem s97_23 : aW d 97 23 L [.int a] h Q = Q (some (.int a)) h := ax_reti mt97 dX11_letter_23 rfl
theorem s97_9 : aW d 97 9 L S h Q = aW d 97 10 L (.int ((-1)) :: S) h Q := ax_iconst mt97 dX11_letter_9 ic_m1
theorem s97_10 : aW d 97 10 L [.int a] h Q = Q (some (.int a)) h := ax_reti mt97 dX11_letter_10 rfl
-- method 98: BufferRoom.order(I)I
theorem dX11_order_0 : decode cX11_order 0 = .ok (.iload_n 1, 1) := by decide +kernel
theorem dX11_order_1 : decode cX11_order 1 = .ok (.invokestatic 115, 3) := by decide +kernel
theorem dX11_order_4 : decode cX11_order 4 = .ok (.ifCond .ne 6, 3) := by decide +kernel
theorem dX11_order_7 : decode cX11_order 7 = .ok (.bipush (-5), 2) := by decide +kernel
theorem dX11_order_9 : decode cX11_order 9 = .ok (.ireturn, 1) := by decide +kernel
theorem dX11_order_10 : decode cX11_order 10 = .ok (.aload_n 0, 1) := by decide +kernel
theorem dX11_order_11 : decode cX11_order 11 = .ok (.getfield 80, 3) := by decide +kernel
theorem dX11_order_14 : decode cX11_order 14 = .ok (.iload_n 1, 1) := by decide +kernel
theorem dX11_order_15 : decode cX11_order 15 = .ok (.aaload, 1) := by decide +kernel
theorem dX11_order_16 : decode cX11_order 16 = .ok (.astore_n 2, 1) := by decide +kernel
theorem dX11_order_17 : decode cX11_order 17 = .ok (.aload_n 2, 1) := by decide +kernel
theorem dX11_order_18 : decode cX11_order 18 = .ok (.getfield 119, 3) := by decide +kernel
theorem dX11_order_21 : decode cX11_order 21 = .ok (.iconst (-1), 1) := by decide +kernel
theorem dX11_order_22 : decode cX11_order 22 = .ok (.if_icmp .ne 6, 3) := by decide +kernel
theorem dX11_order_25 : decode cX11_order 25 = .ok (.bipush (-11), 2) := by decide +kernel
theorem dX11_order_27 : decode cX11_order 27 = .ok (.ireturn, 1) := by decide +kernel
theorem dX11_order_28 : decode cX11_order 28 = .ok (.aload_n 2, 1) := by decide +kernel
theorem dX11_order_29 : decode cX11_order 29 = .ok (.getfield 122, 3) := by decide +kernel
theorem dX11_order_32 : decode cX11_order 32 = .ok (.aload_n 0, 1) := by decide +kernel
theorem dX11_order_33 : decode cX11_order 33 = .ok (.getfield 19, 3) := by decide +kernel
theorem dX11_order_36 : decode cX11_order 36 = .ok (.getfield 103, 3) := by decide +kernel
theorem dX11_order_39 : decode cX11_order 39 = .ok (.if_icmp .eq 6, 3) := by decide +kernel
theorem dX11_order_42 : decode cX11_order 42 = .ok (.bipush (-2), 2) := by decide +kernel
theorem dX11_order_44 : decode cX11_order 44 = .ok (.ireturn, 1) := by decide +kernel
theorem dX11_order_45 : decode cX11_order 45 = .ok (.aload_n 0, 1) := by decide +kernel
theorem dX11_order_46 : decode cX11_order 46 = .ok (.getfield 71, 3) := by decide +kernel
theorem dX11_order_49 : decode cX11_order 49 = .ok (.getfield 106, 3) := by decide +kernel
theorem dX11_order_52 : decode cX11_order 52 = .ok (.ifCond .le 6, 3) := by decide +kernel
theorem dX11_order_55 : decode cX11_order 55 = .ok (.bipush (-3), 2) := by decide +kernel
theorem dX11_order_57 : decode cX11_order 57 = .ok (.ireturn, 1) := by decide +kernel
theorem dX11_order_58 : decode cX11_order 58 = .ok (.aload_n 0, 1) := by decide +kernel
theorem dX11_order_59 : decode cX11_order 59 = .ok (.getfield 32, 3) := by decide +kernel
theorem dX11_order_62 : decode cX11_order 62 = .ok (.aload_n 0, 1) := by decide +kernel
theorem dX11_order_63 : decode cX11_order 63 = .ok (.getfield 19, 3) := by decide +kernel
theorem dX11_order_66 : decode cX11_order 66 = .ok (.aload_n 2, 1) := by decide +kernel
theorem dX11_order_67 : decode cX11_order 67 = .ok (.invokevirtual 125, 3) := by decide +kernel
theorem dX11_order_70 : decode cX11_order 70 = .ok (.istore_n 3, 1) := by decide +kernel
theorem dX11_order_71 : decode cX11_order 71 = .ok (.iload_n 3, 1) := by decide +kernel
theorem dX11_order_72 : decode cX11_order 72 = .ok (.ifCond .lt 8, 3) := by decide +kernel
theorem dX11_order_75 : decode cX11_order 75 = .ok (.bipush (-100), 2) := by decide +kernel
theorem dX11_order_77 : decode cX11_order 77 = .ok (.iload_n 3, 1) := by decide +kernel
theorem dX11_order_78 : decode cX11_order 78 = .ok (.isub, 1) := by decide +kernel
theorem dX11_order_79 : decode cX11_order 79 = .ok (.ireturn, 1) := by decide +kernel
theorem dX11_order_80 : decode cX11_order 80 = .ok (.aload_n 0, 1) := by decide +kernel
theorem dX11_order_81 : decode cX11_order 81 = .ok (.getfield 32, 3) := by decide +kernel
theorem dX11_order_84 : decode cX11_order 84 = .ok (.aload_n 2, 1) := by decide +kernel
theorem dX11_order_85 : decode cX11_order 85 = .ok (.invokevirtual 129, 3) := by decide +kernel
theorem dX11_order_88 : decode cX11_order 88 = .ok (.aload_n 0, 1) := by decide +kernel
theorem dX11_order_89 : decode cX11_order 89 = .ok (.invokevirtual 112, 3) := by decide +kernel
theorem dX11_order_92 : decode cX11_order 92 = .ok (.aload_n 0, 1) := by decide +kernel
theorem dX11_order_93 : decode cX11_order 93 = .ok (.getfield 19, 3) := by decide +kernel
theorem dX11_order_96 : decode cX11_order 96 = .ok (.getfield 103, 3) := by decide +kernel
theorem dX11_order_99 : decode cX11_order 99 = .ok (.ireturn, 1) := by decide +kernel
theorem s98_0 : aW d 98 0 [l0, .int a, l2, l3] S h Q = aW d 98 1 [l0, .int a, l2, l3] (.int a :: S) h Q := ax_iload_n mt98 dX11_order_0 rfl
theorem s98_1 : aW (d + 1) 98 1 L (.int x0 :: []) h Q = aM d 129 [.int x0] h (fun v h1 => aW (d + 1) 98 4 L (ab_ps v []) h1 Q) := ax_invs mt98 dX11_order_1 (by decide) ct_45171 (.inl rfl) mt129 ⟨⟨Nat.le_of_ble_eq_true rfl, Nat.le_of_ble_eq_true rfl, Nat.le_of_ble_eq_true rfl⟩, rfl, rfl⟩
theorem s98_4 : aW d 98 4 L (.int a :: S) h Q = (if a = 0 then aW d 98 7 L S h Q else aW d 98 10 L S h Q) := ax_if_ne mt98 dX11_order_4 (by decide)
theorem s98_7 : aW d 98 7 L S h Q = aW d 98 9 L (.int ((-5)) :: S) h Q := ax_bipush mt98 dX11_order_7 bp_m5
theorem s98_9 : aW d 98 9 L [.int a] h Q = Q (some (.int a)) h := ax_reti mt98 dX11_order_9 rfl
theorem s98_10 : aW d 98 10 [.ref o, l1, l2, l3] S h Q = aW d 98 11 [.ref o, l1, l2, l3] (.ref o :: S) h Q := ax_aload_n mt98 dX11_order_10 rfl
theorem s98_11 (hT : gT h o = some (13, 14)) : aW d 98 11 L (.ref o :: S) h Q = (isRf (gR h o 12) = true ∧ aW d 98 14 L (gR h o 12 :: S) h Q) := ax_geta mt98 dX11_order_11 (by decide) ft_45136 fk_45136 hT
theorem s98_14 : aW d 98 14 [l0, .int a, l2, l3] S h Q = aW d 98 15 [l0, .int a, l2, l3] (.int a :: S) h Q := ax_iload_n mt98 dX11_order_14 rfl
theorem s98_15 : aW d 98 15 L (.int a :: .ref o :: S) h Q = ((inb a (aQ h o) ∧ isRf (gR h o a.toNatClampNeg) = true) ∧ aW d 98 16 L (gR h o a.toNatClampNeg :: S) h Q) := ax_aald mt98 dX11_order_15
theorem s98_16 : aW d 98 16 [l0, l1, l2, l3] (.ref o :: S) h Q = aW d 98 17 [l0, l1, .ref o, l3] S h Q := ax_astore_n mt98 dX11_order_16 (Nat.le_of_ble_eq_true rfl) rfl
theorem s98_17 : aW d 98 17 [l0, l1, .ref o, l3] S h Q = aW d 98 18 [l0, l1, .ref o, l3] (.ref o :: S) h Q := ax_aload_n mt98 dX11_order_17 rfl
theorem s98_18 (hT : gT h o = some (11, 3)) : aW d 98 18 L (.ref o :: S) h Q = aW d 98 21 L (.int (gI h o 0) :: S) h Q := ax_geti mt98 dX11_order_18 (by decide) ft_45175 fk_45175 hT
theorem s98_21 : aW d 98 21 L S h Q = aW d 98 22 L (.int ((-1)) :: S) h Q := ax_iconst mt98 dX11_order_21 ic_m1
theorem s98_22 : aW d 98 22 L (.int b :: .int a :: S) h Q = (if a = b then aW d 98 25 L S h Q else aW d 98 28 L S h Q) := ax_icmp_ne mt98 dX11_order_22 (by decide)
theorem s98_25 : aW d 98 25 L S h Q = aW d 98 27 L (.int ((-11)) :: S) h Q := ax_bipush mt98 dX11_order_25 bp_m11
theorem s98_27 : aW d 98 27 L [.int a] h Q = Q (some (.int a)) h := ax_reti mt98 dX11_order_27 rfl
theorem s98_28 : aW d 98 28 [l0, l1, .ref o, l3] S h Q = aW d 98 29 [l0, l1, .ref o, l3] (.ref o :: S) h Q := ax_aload_n mt98 dX11_order_28 rfl
theorem s98_29 (hT : gT h o = some (11, 3)) : aW d 98 29 L (.ref o :: S) h Q = aW d 98 32 L (.int (gI h o 1) :: S) h Q := ax_geti mt98 dX11_order_29 (by decide) ft_45178 fk_45178 hT
theorem s98_32 : aW d 98 32 [.ref o, l1, l2, l3] S h Q = aW d 98 33 [.ref o, l1, l2, l3] (.ref o :: S) h Q := ax_aload_n mt98 dX11_order_32 rfl
theorem s98_33 (hT : gT h o = some (13, 14)) : aW d 98 33 L (.ref o :: S) h Q = (isRf (gR h o 1) = true ∧ aW d 98 36 L (gR h o 1 :: S) h Q) := ax_geta mt98 dX11_order_33 (by decide) ft_45075 fk_45075 hT
theorem s98_36 (hT : gT h o = some (8, 12)) : aW d 98 36 L (.ref o :: S) h Q = aW d 98 39 L (.int (gI h o 6) :: S) h Q := ax_geti mt98 dX11_order_36 (by decide) ft_45159 fk_45159 hT
theorem s98_39 : aW d 98 39 L (.int b :: .int a :: S) h Q = (if a = b then aW d 98 45 L S h Q else aW d 98 42 L S h Q) := ax_icmp_eq mt98 dX11_order_39 (by decide)
theorem s98_42 : aW d 98 42 L S h Q = aW d 98 44 L (.int ((-2)) :: S) h Q := ax_bipush mt98 dX11_order_42 bp_m2
theorem s98_44 : aW d 98 44 L [.int a] h Q = Q (some (.int a)) h := ax_reti mt98 dX11_order_44 rfl
theorem s98_45 : aW d 98 45 [.ref o, l1, l2, l3] S h Q = aW d 98 46 [.ref o, l1, l2, l3] (.ref o :: S) h Q := ax_aload_n mt98 dX11_order_45 rfl
theorem s98_46 (hT : gT h o = some (13, 14)) : aW d 98 46 L (.ref o :: S) h Q = (isRf (gR h o 9) = true ∧ aW d 98 49 L (gR h o 9 :: S) h Q) := ax_geta mt98 dX11_order_46 (by decide) ft_45127 fk_45127 hT
theorem s98_49 (hT : gT h o = some (3, 5)) : aW d 98 49 L (.ref o :: S) h Q = aW d 98 52 L (.int (gI h o 0) :: S) h Q := ax_geti mt98 dX11_order_49 (by decide) ft_45162 fk_45162 hT
theorem s98_52 : aW d 98 52 L (.int a :: S) h Q = (if 0 < a then aW d 98 55 L S h Q else aW d 98 58 L S h Q) := ax_if_le mt98 dX11_order_52 (by decide)
theorem s98_55 : aW d 98 55 L S h Q = aW d 98 57 L (.int ((-3)) :: S) h Q := ax_bipush mt98 dX11_order_55 bp_m3
theorem s98_57 : aW d 98 57 L [.int a] h Q = Q (some (.int a)) h := ax_reti mt98 dX11_order_57 rfl
theorem s98_58 : aW d 98 58 [.ref o, l1, l2, l3] S h Q = aW d 98 59 [.ref o, l1, l2, l3] (.ref o :: S) h Q := ax_aload_n mt98 dX11_order_58 rfl
theorem s98_59 (hT : gT h o = some (13, 14)) : aW d 98 59 L (.ref o :: S) h Q = (isRf (gR h o 3) = true ∧ aW d 98 62 L (gR h o 3 :: S) h Q) := ax_geta mt98 dX11_order_59 (by decide) ft_45088 fk_45088 hT
theorem s98_62 : aW d 98 62 [.ref o, l1, l2, l3] S h Q = aW d 98 63 [.ref o, l1, l2, l3] (.ref o :: S) h Q := ax_aload_n mt98 dX11_order_62 rfl
theorem s98_63 (hT : gT h o = some (13, 14)) : aW d 98 63 L (.ref o :: S) h Q = (isRf (gR h o 1) = true ∧ aW d 98 66 L (gR h o 1 :: S) h Q) := ax_geta mt98 dX11_order_63 (by decide) ft_45075 fk_45075 hT
theorem s98_66 : aW d 98 66 [l0, l1, .ref o, l3] S h Q = aW d 98 67 [l0, l1, .ref o, l3] (.ref o :: S) h Q := ax_aload_n mt98 dX11_order_66 rfl
theorem s98_67 (hT : gT h o = some (12, 9)) : aW (d + 1) 98 67 L (.ref p1 :: .ref p0 :: .ref o :: []) h Q = aM d 83 (.ref o :: [.ref p0, .ref p1]) h (fun v h1 => aW (d + 1) 98 70 L (ab_ps v []) h1 Q) := ax_invv mt98 dX11_order_67 (by decide) ct_45181 (.inl rfl) mt83 ⟨⟨Nat.le_of_ble_eq_true rfl, Nat.le_of_ble_eq_true rfl, Nat.le_of_ble_eq_true rfl⟩, rfl, rfl, rfl⟩ hT
theorem s98_70 : aW d 98 70 [l0, l1, l2, l3] (.int a :: S) h Q = aW d 98 71 [l0, l1, l2, .int a] S h Q := ax_istore_n mt98 dX11_order_70 (Nat.le_of_ble_eq_true rfl) rfl
theorem s98_71 : aW d 98 71 [l0, l1, l2, .int a] S h Q = aW d 98 72 [l0, l1, l2, .int a] (.int a :: S) h Q := ax_iload_n mt98 dX11_order_71 rfl
theorem s98_72 : aW d 98 72 L (.int a :: S) h Q = (if a < 0 then aW d 98 80 L S h Q else aW d 98 75 L S h Q) := ax_if_lt mt98 dX11_order_72 (by decide)
theorem s98_75 : aW d 98 75 L S h Q = aW d 98 77 L (.int ((-100)) :: S) h Q := ax_bipush mt98 dX11_order_75 bp_m100
theorem s98_77 : aW d 98 77 [l0, l1, l2, .int a] S h Q = aW d 98 78 [l0, l1, l2, .int a] (.int a :: S) h Q := ax_iload_n mt98 dX11_order_77 rfl
theorem s98_78 : aW d 98 78 L (.int b :: .int a :: S) h Q = aW d 98 79 L (.int (a - b) :: S) h Q := ax_isub mt98 dX11_order_78
theorem s98_79 : aW d 98 79 L [.int a] h Q = Q (some (.int a)) h := ax_reti mt98 dX11_order_79 rfl
theorem s98_80 : aW d 98 80 [.ref o, l1, l2, l3] S h Q = aW d 98 81 [.ref o, l1, l2, l3] (.ref o :: S) h Q := ax_aload_n mt98 dX11_order_80 rfl
theorem s98_81 (hT : gT h o = some (13, 14)) : aW d 98 81 L (.ref o :: S) h Q = (isRf (gR h o 3) = true ∧ aW d 98 84 L (gR h o 3 :: S) h Q) := ax_geta mt98 dX11_order_81 (by decide) ft_45088 fk_45088 hT
theorem s98_84 : aW d 98 84 [l0, l1, .ref o, l3] S h Q = aW d 98 85 [l0, l1, .ref o, l3] (.ref o :: S) h Q := ax_aload_n mt98 dX11_order_84 rfl
theorem s98_85 (hT : gT h o = some (12, 9)) : aW (d + 1) 98 85 L (.ref p0 :: .ref o :: []) h Q = aM d 84 (.ref o :: [.ref p0]) h (fun v h1 => aW (d + 1) 98 88 L (ab_ps v []) h1 Q) := ax_invv mt98 dX11_order_85 (by decide) ct_45185 (.inl rfl) mt84 ⟨⟨Nat.le_of_ble_eq_true rfl, Nat.le_of_ble_eq_true rfl, Nat.le_of_ble_eq_true rfl⟩, rfl, rfl, rfl⟩ hT
theorem s98_88 : aW d 98 88 [.ref o, l1, l2, l3] S h Q = aW d 98 89 [.ref o, l1, l2, l3] (.ref o :: S) h Q := ax_aload_n mt98 dX11_order_88 rfl
theorem s98_89 (hT : gT h o = some (13, 14)) : aW (d + 1) 98 89 L (.ref o :: []) h Q = aM d 134 (.ref o :: []) h (fun v h1 => aW (d + 1) 98 92 L (ab_ps v []) h1 Q) := ax_invv mt98 dX11_order_89 (by decide) ct_45168 (.inl rfl) mt134 ⟨⟨Nat.le_of_ble_eq_true rfl, Nat.le_of_ble_eq_true rfl, Nat.le_of_ble_eq_true rfl⟩, rfl, rfl, rfl⟩ hT
theorem s98_92 : aW d 98 92 [.ref o, l1, l2, l3] S h Q = aW d 98 93 [.ref o, l1, l2, l3] (.ref o :: S) h Q := ax_aload_n mt98 dX11_order_92 rfl
theorem s98_93 (hT : gT h o = some (13, 14)) : aW d 98 93 L (.ref o :: S) h Q = (isRf (gR h o 1) = true ∧ aW d 98 96 L (gR h o 1 :: S) h Q) := ax_geta mt98 dX11_order_93 (by decide) ft_45075 fk_45075 hT
theorem s98_96 (hT : gT h o = some (8, 12)) : aW d 98 96 L (.ref o :: S) h Q = aW d 98 99 L (.int (gI h o 6) :: S) h Q := ax_geti mt98 dX11_order_96 (by decide) ft_45159 fk_45159 hT
theorem s98_99 : aW d 98 99 L [.int a] h Q = Q (some (.int a)) h := ax_reti mt98 dX11_order_99 rfl
-- method 99: BufferRoom.orderTold(I)I
theorem dX11_orderTold_0 : decode cX11_orderTold 0 = .ok (.aload_n 0, 1) := by decide +kernel
theorem dX11_orderTold_1 : decode cX11_orderTold 1 = .ok (.iload_n 1, 1) := by decide +kernel
theorem dX11_orderTold_2 : decode cX11_orderTold 2 = .ok (.invokevirtual 133, 3) := by decide +kernel
theorem dX11_orderTold_5 : decode cX11_orderTold 5 = .ok (.istore_n 2, 1) := by decide +kernel
theorem dX11_orderTold_6 : decode cX11_orderTold 6 = .ok (.iload_n 2, 1) := by decide +kernel
theorem dX11_orderTold_7 : decode cX11_orderTold 7 = .ok (.ifCond .ge 7, 3) := by decide +kernel
theorem dX11_orderTold_10 : decode cX11_orderTold 10 = .ok (.iload_n 2, 1) := by decide +kernel
theorem dX11_orderTold_11 : decode cX11_orderTold 11 = .ok (.goto 12, 3) := by decide +kernel
theorem dX11_orderTold_14 : decode cX11_orderTold 14 = .ok (.aload_n 0, 1) := by decide +kernel
theorem dX11_orderTold_15 : decode cX11_orderTold 15 = .ok (.getfield 32, 3) := by decide +kernel
theorem dX11_orderTold_18 : decode cX11_orderTold 18 = .ok (.getfield 137, 3) := by decide +kernel
theorem dX11_orderTold_21 : decode cX11_orderTold 21 = .ok (.iload_n 1, 1) := by decide +kernel
theorem dX11_orderTold_22 : decode cX11_orderTold 22 = .ok (.iaload, 1) := by decide +kernel
theorem dX11_orderTold_23 : decode cX11_orderTold 23 = .ok (.ireturn, 1) := by decide +kernel
theorem s99_0 : aW d 99 0 [.ref o, l1, l2] S h Q = aW d 99 1 [.ref o, l1, l2] (.ref o :: S) h Q := ax_aload_n mt99 dX11_orderTold_0 rfl
theorem s99_1 : aW d 99 1 [l0, .int a, l2] S h Q = aW d 99 2 [l0, .int a, l2] (.int a :: S) h Q := ax_iload_n mt99 dX11_orderTold_1 rfl
theorem s99_2 (hT : gT h o = some (13, 14)) : aW (d + 1) 99 2 L (.int x0 :: .ref o :: []) h Q = aM d 135 (.ref o :: [.int x0]) h (fun v h1 => aW (d + 1) 99 5 L (ab_ps v []) h1 Q) := ax_invv mt99 dX11_orderTold_2 (by decide) ct_45189 (.inl rfl) mt135 ⟨⟨Nat.le_of_ble_eq_true rfl, Nat.le_of_ble_eq_true rfl, Nat.le_of_ble_eq_true rfl⟩, rfl, rfl, rfl⟩ hT
theorem s99_5 : aW d 99 5 [l0, l1, l2] (.int a :: S) h Q = aW d 99 6 [l0, l1, .int a] S h Q := ax_istore_n mt99 dX11_orderTold_5 (Nat.le_of_ble_eq_true rfl) rfl
theorem s99_6 : aW d 99 6 [l0, l1, .int a] S h Q = aW d 99 7 [l0, l1, .int a] (.int a :: S) h Q := ax_iload_n mt99 dX11_orderTold_6 rfl
theorem s99_7 : aW d 99 7 L (.int a :: S) h Q = (if a < 0 then aW d 99 10 L S h Q else aW d 99 14 L S h Q) := ax_if_ge mt99 dX11_orderTold_7 (by decide)
theorem s99_10 : aW d 99 10 [l0, l1, .int a] S h Q = aW d 99 11 [l0, l1, .int a] (.int a :: S) h Q := ax_iload_n mt99 dX11_orderTold_10 rfl
theorem s99_11 : aW d 99 11 L S h Q = aW d 99 23 L S h Q := ax_goto mt99 dX11_orderTold_11 (by decide)
theorem s99_23 : aW d 99 23 L [.int a] h Q = Q (some (.int a)) h := ax_reti mt99 dX11_orderTold_23 rfl
theorem s99_14 : aW d 99 14 [.ref o, l1, l2] S h Q = aW d 99 15 [.ref o, l1, l2] (.ref o :: S) h Q := ax_aload_n mt99 dX11_orderTold_14 rfl
theorem s99_15 (hT : gT h o = some (13, 14)) : aW d 99 15 L (.ref o :: S) h Q = (isRf (gR h o 3) = true ∧ aW d 99 18 L (gR h o 3 :: S) h Q) := ax_geta mt99 dX11_orderTold_15 (by decide) ft_45088 fk_45088 hT
theorem s99_18 (hT : gT h o = some (12, 9)) : aW d 99 18 L (.ref o :: S) h Q = (isRf (gR h o 4) = true ∧ aW d 99 21 L (gR h o 4 :: S) h Q) := ax_geta mt99 dX11_orderTold_18 (by decide) ft_45193 fk_45193 hT
theorem s99_21 : aW d 99 21 [l0, .int a, l2] S h Q = aW d 99 22 [l0, .int a, l2] (.int a :: S) h Q := ax_iload_n mt99 dX11_orderTold_21 rfl
theorem s99_22 : aW d 99 22 L (.int a :: .ref o :: S) h Q = (inb a (aI h o) ∧ aW d 99 23 L (.int (gI h o a.toNatClampNeg) :: S) h Q) := ax_iald mt99 dX11_orderTold_22
-- method 100: BufferRoom.load(I)I
theorem dX11_load_0 : decode cX11_load 0 = .ok (.aload_n 0, 1) := by decide +kernel
theorem dX11_load_1 : decode cX11_load 1 = .ok (.iload_n 1, 1) := by decide +kernel
theorem dX11_load_2 : decode cX11_load 2 = .ok (.invokevirtual 133, 3) := by decide +kernel
theorem dX11_load_5 : decode cX11_load 5 = .ok (.istore_n 2, 1) := by decide +kernel
theorem dX11_load_6 : decode cX11_load 6 = .ok (.iload_n 2, 1) := by decide +kernel
theorem dX11_load_7 : decode cX11_load 7 = .ok (.ifCond .ge 7, 3) := by decide +kernel
theorem dX11_load_10 : decode cX11_load 10 = .ok (.iload_n 2, 1) := by decide +kernel
theorem dX11_load_11 : decode cX11_load 11 = .ok (.goto 12, 3) := by decide +kernel
theorem dX11_load_14 : decode cX11_load 14 = .ok (.aload_n 0, 1) := by decide +kernel
theorem dX11_load_15 : decode cX11_load 15 = .ok (.getfield 32, 3) := by decide +kernel
theorem dX11_load_18 : decode cX11_load 18 = .ok (.getfield 140, 3) := by decide +kernel
theorem dX11_load_21 : decode cX11_load 21 = .ok (.iload_n 1, 1) := by decide +kernel
theorem dX11_load_22 : decode cX11_load 22 = .ok (.iaload, 1) := by decide +kernel
theorem dX11_load_23 : decode cX11_load 23 = .ok (.ireturn, 1) := by decide +kernel
theorem s100_0 : aW d 100 0 [.ref o, l1, l2] S h Q = aW d 100 1 [.ref o, l1, l2] (.ref o :: S) h Q := ax_aload_n mt100 dX11_load_0 rfl
theorem s100_1 : aW d 100 1 [l0, .int a, l2] S h Q = aW d 100 2 [l0, .int a, l2] (.int a :: S) h Q := ax_iload_n mt100 dX11_load_1 rfl
theorem s100_2 (hT : gT h o = some (13, 14)) : aW (d + 1) 100 2 L (.int x0 :: .ref o :: []) h Q = aM d 135 (.ref o :: [.int x0]) h (fun v h1 => aW (d + 1) 100 5 L (ab_ps v []) h1 Q) := ax_invv mt100 dX11_load_2 (by decide) ct_45189 (.inl rfl) mt135 ⟨⟨Nat.le_of_ble_eq_true rfl, Nat.le_of_ble_eq_true rfl, Nat.le_of_ble_eq_true rfl⟩, rfl, rfl, rfl⟩ hT
theorem s100_5 : aW d 100 5 [l0, l1, l2] (.int a :: S) h Q = aW d 100 6 [l0, l1, .int a] S h Q := ax_istore_n mt100 dX11_load_5 (Nat.le_of_ble_eq_true rfl) rfl
theorem s100_6 : aW d 100 6 [l0, l1, .int a] S h Q = aW d 100 7 [l0, l1, .int a] (.int a :: S) h Q := ax_iload_n mt100 dX11_load_6 rfl
theorem s100_7 : aW d 100 7 L (.int a :: S) h Q = (if a < 0 then aW d 100 10 L S h Q else aW d 100 14 L S h Q) := ax_if_ge mt100 dX11_load_7 (by decide)
theorem s100_10 : aW d 100 10 [l0, l1, .int a] S h Q = aW d 100 11 [l0, l1, .int a] (.int a :: S) h Q := ax_iload_n mt100 dX11_load_10 rfl
theorem s100_11 : aW d 100 11 L S h Q = aW d 100 23 L S h Q := ax_goto mt100 dX11_load_11 (by decide)
theorem s100_23 : aW d 100 23 L [.int a] h Q = Q (some (.int a)) h := ax_reti mt100 dX11_load_23 rfl
theorem s100_14 : aW d 100 14 [.ref o, l1, l2] S h Q = aW d 100 15 [.ref o, l1, l2] (.ref o :: S) h Q := ax_aload_n mt100 dX11_load_14 rfl
theorem s100_15 (hT : gT h o = some (13, 14)) : aW d 100 15 L (.ref o :: S) h Q = (isRf (gR h o 3) = true ∧ aW d 100 18 L (gR h o 3 :: S) h Q) := ax_geta mt100 dX11_load_15 (by decide) ft_45088 fk_45088 hT
theorem s100_18 (hT : gT h o = some (12, 9)) : aW d 100 18 L (.ref o :: S) h Q = (isRf (gR h o 6) = true ∧ aW d 100 21 L (gR h o 6 :: S) h Q) := ax_geta mt100 dX11_load_18 (by decide) ft_45196 fk_45196 hT
theorem s100_21 : aW d 100 21 [l0, .int a, l2] S h Q = aW d 100 22 [l0, .int a, l2] (.int a :: S) h Q := ax_iload_n mt100 dX11_load_21 rfl
theorem s100_22 : aW d 100 22 L (.int a :: .ref o :: S) h Q = (inb a (aI h o) ∧ aW d 100 23 L (.int (gI h o a.toNatClampNeg) :: S) h Q) := ax_iald mt100 dX11_load_22
-- method 101: BufferRoom.over(I)I
theorem dX11_over_0 : decode cX11_over 0 = .ok (.aload_n 0, 1) := by decide +kernel
theorem dX11_over_1 : decode cX11_over 1 = .ok (.iload_n 1, 1) := by decide +kernel
theorem dX11_over_2 : decode cX11_over 2 = .ok (.invokevirtual 133, 3) := by decide +kernel
theorem dX11_over_5 : decode cX11_over 5 = .ok (.istore_n 2, 1) := by decide +kernel
theorem dX11_over_6 : decode cX11_over 6 = .ok (.iload_n 2, 1) := by decide +kernel
theorem dX11_over_7 : decode cX11_over 7 = .ok (.ifCond .ge 7, 3) := by decide +kernel
theorem dX11_over_10 : decode cX11_over 10 = .ok (.iload_n 2, 1) := by decide +kernel
theorem dX11_over_11 : decode cX11_over 11 = .ok (.goto 12, 3) := by decide +kernel
theorem dX11_over_14 : decode cX11_over 14 = .ok (.aload_n 0, 1) := by decide +kernel
theorem dX11_over_15 : decode cX11_over 15 = .ok (.getfield 32, 3) := by decide +kernel
theorem dX11_over_18 : decode cX11_over 18 = .ok (.getfield 143, 3) := by decide +kernel
theorem dX11_over_21 : decode cX11_over 21 = .ok (.iload_n 1, 1) := by decide +kernel
theorem dX11_over_22 : decode cX11_over 22 = .ok (.iaload, 1) := by decide +kernel
theorem dX11_over_23 : decode cX11_over 23 = .ok (.ireturn, 1) := by decide +kernel
theorem s101_0 : aW d 101 0 [.ref o, l1, l2] S h Q = aW d 101 1 [.ref o, l1, l2] (.ref o :: S) h Q := ax_aload_n mt101 dX11_over_0 rfl
theorem s101_1 : aW d 101 1 [l0, .int a, l2] S h Q = aW d 101 2 [l0, .int a, l2] (.int a :: S) h Q := ax_iload_n mt101 dX11_over_1 rfl
theorem s101_2 (hT : gT h o = some (13, 14)) : aW (d + 1) 101 2 L (.int x0 :: .ref o :: []) h Q = aM d 135 (.ref o :: [.int x0]) h (fun v h1 => aW (d + 1) 101 5 L (ab_ps v []) h1 Q) := ax_invv mt101 dX11_over_2 (by decide) ct_45189 (.inl rfl) mt135 ⟨⟨Nat.le_of_ble_eq_true rfl, Nat.le_of_ble_eq_true rfl, Nat.le_of_ble_eq_true rfl⟩, rfl, rfl, rfl⟩ hT
theorem s101_5 : aW d 101 5 [l0, l1, l2] (.int a :: S) h Q = aW d 101 6 [l0, l1, .int a] S h Q := ax_istore_n mt101 dX11_over_5 (Nat.le_of_ble_eq_true rfl) rfl
theorem s101_6 : aW d 101 6 [l0, l1, .int a] S h Q = aW d 101 7 [l0, l1, .int a] (.int a :: S) h Q := ax_iload_n mt101 dX11_over_6 rfl
theorem s101_7 : aW d 101 7 L (.int a :: S) h Q = (if a < 0 then aW d 101 10 L S h Q else aW d 101 14 L S h Q) := ax_if_ge mt101 dX11_over_7 (by decide)
theorem s101_10 : aW d 101 10 [l0, l1, .int a] S h Q = aW d 101 11 [l0, l1, .int a] (.int a :: S) h Q := ax_iload_n mt101 dX11_over_10 rfl
theorem s101_11 : aW d 101 11 L S h Q = aW d 101 23 L S h Q := ax_goto mt101 dX11_over_11 (by decide)
theorem s101_23 : aW d 101 23 L [.int a] h Q = Q (some (.int a)) h := ax_reti mt101 dX11_over_23 rfl
theorem s101_14 : aW d 101 14 [.ref o, l1, l2] S h Q = aW d 101 15 [.ref o, l1, l2] (.ref o :: S) h Q := ax_aload_n mt101 dX11_over_14 rfl
theorem s101_15 (hT : gT h o = some (13, 14)) : aW d 101 15 L (.ref o :: S) h Q = (isRf (gR h o 3) = true ∧ aW d 101 18 L (gR h o 3 :: S) h Q) := ax_geta mt101 dX11_over_15 (by decide) ft_45088 fk_45088 hT
theorem s101_18 (hT : gT h o = some (12, 9)) : aW d 101 18 L (.ref o :: S) h Q = (isRf (gR h o 5) = true ∧ aW d 101 21 L (gR h o 5 :: S) h Q) := ax_geta mt101 dX11_over_18 (by decide) ft_45199 fk_45199 hT
theorem s101_21 : aW d 101 21 [l0, .int a, l2] S h Q = aW d 101 22 [l0, .int a, l2] (.int a :: S) h Q := ax_iload_n mt101 dX11_over_21 rfl
theorem s101_22 : aW d 101 22 L (.int a :: .ref o :: S) h Q = (inb a (aI h o) ∧ aW d 101 23 L (.int (gI h o a.toNatClampNeg) :: S) h Q) := ax_iald mt101 dX11_over_22
-- method 102: BufferRoom.peak(I)I
theorem dX11_peak_0 : decode cX11_peak 0 = .ok (.iload_n 1, 1) := by decide +kernel
theorem dX11_peak_1 : decode cX11_peak 1 = .ok (.ifCond .lt 8, 3) := by decide +kernel
theorem dX11_peak_4 : decode cX11_peak 4 = .ok (.iload_n 1, 1) := by decide +kernel
theorem dX11_peak_5 : decode cX11_peak 5 = .ok (.iconst 2, 1) := by decide +kernel
theorem dX11_peak_6 : decode cX11_peak 6 = .ok (.if_icmp .le 6, 3) := by decide +kernel
theorem dX11_peak_9 : decode cX11_peak 9 = .ok (.bipush (-5), 2) := by decide +kernel
theorem dX11_peak_11 : decode cX11_peak 11 = .ok (.ireturn, 1) := by decide +kernel
theorem dX11_peak_12 : decode cX11_peak 12 = .ok (.aload_n 0, 1) := by decide +kernel
theorem dX11_peak_13 : decode cX11_peak 13 = .ok (.getfield 32, 3) := by decide +kernel
theorem dX11_peak_16 : decode cX11_peak 16 = .ok (.getfield 146, 3) := by decide +kernel
theorem dX11_peak_19 : decode cX11_peak 19 = .ok (.ifCond .ne 6, 3) := by decide +kernel
theorem dX11_peak_22 : decode cX11_peak 22 = .ok (.bipush (-3), 2) := by decide +kernel
theorem dX11_peak_24 : decode cX11_peak 24 = .ok (.ireturn, 1) := by decide +kernel
theorem dX11_peak_25 : decode cX11_peak 25 = .ok (.iload_n 1, 1) := by decide +kernel
theorem dX11_peak_26 : decode cX11_peak 26 = .ok (.iconst 2, 1) := by decide +kernel
theorem dX11_peak_27 : decode cX11_peak 27 = .ok (.if_icmp .ne 11, 3) := by decide +kernel
theorem dX11_peak_30 : decode cX11_peak 30 = .ok (.aload_n 0, 1) := by decide +kernel
theorem dX11_peak_31 : decode cX11_peak 31 = .ok (.getfield 19, 3) := by decide +kernel
theorem dX11_peak_34 : decode cX11_peak 34 = .ok (.invokevirtual 150, 3) := by decide +kernel
theorem dX11_peak_37 : decode cX11_peak 37 = .ok (.ireturn, 1) := by decide +kernel
theorem dX11_peak_38 : decode cX11_peak 38 = .ok (.aload_n 0, 1) := by decide +kernel
theorem dX11_peak_39 : decode cX11_peak 39 = .ok (.getfield 32, 3) := by decide +kernel
theorem dX11_peak_42 : decode cX11_peak 42 = .ok (.invokevirtual 154, 3) := by decide +kernel
theorem dX11_peak_45 : decode cX11_peak 45 = .ok (.istore_n 2, 1) := by decide +kernel
theorem dX11_peak_46 : decode cX11_peak 46 = .ok (.iload_n 1, 1) := by decide +kernel
theorem dX11_peak_47 : decode cX11_peak 47 = .ok (.iconst 1, 1) := by decide +kernel
theorem dX11_peak_48 : decode cX11_peak 48 = .ok (.if_icmp .ne 5, 3) := by decide +kernel
theorem dX11_peak_51 : decode cX11_peak 51 = .ok (.iload_n 2, 1) := by decide +kernel
theorem dX11_peak_52 : decode cX11_peak 52 = .ok (.ireturn, 1) := by decide +kernel
theorem dX11_peak_53 : decode cX11_peak 53 = .ok (.iload_n 2, 1) := by decide +kernel
theorem dX11_peak_54 : decode cX11_peak 54 = .ok (.ifCond .ge 7, 3) := by decide +kernel
theorem dX11_peak_57 : decode cX11_peak 57 = .ok (.iconst 0, 1) := by decide +kernel
theorem dX11_peak_58 : decode cX11_peak 58 = .ok (.goto 12, 3) := by decide +kernel
theorem dX11_peak_61 : decode cX11_peak 61 = .ok (.aload_n 0, 1) := by decide +kernel
theorem dX11_peak_62 : decode cX11_peak 62 = .ok (.getfield 32, 3) := by decide +kernel
theorem dX11_peak_65 : decode cX11_peak 65 = .ok (.getfield 140, 3) := by decide +kernel
theorem dX11_peak_68 : decode cX11_peak 68 = .ok (.iload_n 2, 1) := by decide +kernel
theorem dX11_peak_69 : decode cX11_peak 69 = .ok (.iaload, 1) := by decide +kernel
theorem dX11_peak_70 : decode cX11_peak 70 = .ok (.ireturn, 1) := by decide +kernel
theorem s102_0 : aW d 102 0 [l0, .int a, l2] S h Q = aW d 102 1 [l0, .int a, l2] (.int a :: S) h Q := ax_iload_n mt102 dX11_peak_0 rfl
theorem s102_1 : aW d 102 1 L (.int a :: S) h Q = (if a < 0 then aW d 102 9 L S h Q else aW d 102 4 L S h Q) := ax_if_lt mt102 dX11_peak_1 (by decide)
theorem s102_4 : aW d 102 4 [l0, .int a, l2] S h Q = aW d 102 5 [l0, .int a, l2] (.int a :: S) h Q := ax_iload_n mt102 dX11_peak_4 rfl
theorem s102_5 : aW d 102 5 L S h Q = aW d 102 6 L (.int (nI 2) :: S) h Q := ax_iconst mt102 dX11_peak_5 ic_2
theorem s102_6 : aW d 102 6 L (.int b :: .int a :: S) h Q = (if b < a then aW d 102 9 L S h Q else aW d 102 12 L S h Q) := ax_icmp_le mt102 dX11_peak_6 (by decide)
theorem s102_12 : aW d 102 12 [.ref o, l1, l2] S h Q = aW d 102 13 [.ref o, l1, l2] (.ref o :: S) h Q := ax_aload_n mt102 dX11_peak_12 rfl
theorem s102_13 (hT : gT h o = some (13, 14)) : aW d 102 13 L (.ref o :: S) h Q = (isRf (gR h o 3) = true ∧ aW d 102 16 L (gR h o 3 :: S) h Q) := ax_geta mt102 dX11_peak_13 (by decide) ft_45088 fk_45088 hT
theorem s102_16 (hT : gT h o = some (12, 9)) : aW d 102 16 L (.ref o :: S) h Q = aW d 102 19 L (.int (gI h o 3) :: S) h Q := ax_geti mt102 dX11_peak_16 (by decide) ft_45202 fk_45202 hT
theorem s102_19 : aW d 102 19 L (.int a :: S) h Q = (if a = 0 then aW d 102 22 L S h Q else aW d 102 25 L S h Q) := ax_if_ne mt102 dX11_peak_19 (by decide)
theorem s102_22 : aW d 102 22 L S h Q = aW d 102 24 L (.int ((-3)) :: S) h Q := ax_bipush mt102 dX11_peak_22 bp_m3
theorem s102_24 : aW d 102 24 L [.int a] h Q = Q (some (.int a)) h := ax_reti mt102 dX11_peak_24 rfl
theorem s102_25 : aW d 102 25 [l0, .int a, l2] S h Q = aW d 102 26 [l0, .int a, l2] (.int a :: S) h Q := ax_iload_n mt102 dX11_peak_25 rfl
theorem s102_26 : aW d 102 26 L S h Q = aW d 102 27 L (.int (nI 2) :: S) h Q := ax_iconst mt102 dX11_peak_26 ic_2
theorem s102_27 : aW d 102 27 L (.int b :: .int a :: S) h Q = (if a = b then aW d 102 30 L S h Q else aW d 102 38 L S h Q) := ax_icmp_ne mt102 dX11_peak_27 (by decide)
theorem s102_30 : aW d 102 30 [.ref o, l1, l2] S h Q = aW d 102 31 [.ref o, l1, l2] (.ref o :: S) h Q := ax_aload_n mt102 dX11_peak_30 rfl
theorem s102_31 (hT : gT h o = some (13, 14)) : aW d 102 31 L (.ref o :: S) h Q = (isRf (gR h o 1) = true ∧ aW d 102 34 L (gR h o 1 :: S) h Q) := ax_geta mt102 dX11_peak_31 (by decide) ft_45075 fk_45075 hT
theorem s102_34 (hT : gT h o = some (8, 12)) : aW (d + 1) 102 34 L (.ref o :: []) h Q = aM d 53 (.ref o :: []) h (fun v h1 => aW (d + 1) 102 37 L (ab_ps v []) h1 Q) := ax_invv mt102 dX11_peak_34 (by decide) ct_45206 (.inl rfl) mt53 ⟨⟨Nat.le_of_ble_eq_true rfl, Nat.le_of_ble_eq_true rfl, Nat.le_of_ble_eq_true rfl⟩, rfl, rfl, rfl⟩ hT
theorem s102_37 : aW d 102 37 L [.int a] h Q = Q (some (.int a)) h := ax_reti mt102 dX11_peak_37 rfl
theorem s102_38 : aW d 102 38 [.ref o, l1, l2] S h Q = aW d 102 39 [.ref o, l1, l2] (.ref o :: S) h Q := ax_aload_n mt102 dX11_peak_38 rfl
theorem s102_39 (hT : gT h o = some (13, 14)) : aW d 102 39 L (.ref o :: S) h Q = (isRf (gR h o 3) = true ∧ aW d 102 42 L (gR h o 3 :: S) h Q) := ax_geta mt102 dX11_peak_39 (by decide) ft_45088 fk_45088 hT
theorem s102_42 (hT : gT h o = some (12, 9)) : aW (d + 1) 102 42 L (.ref o :: []) h Q = aM d 89 (.ref o :: []) h (fun v h1 => aW (d + 1) 102 45 L (ab_ps v []) h1 Q) := ax_invv mt102 dX11_peak_42 (by decide) ct_45210 (.inl rfl) mt89 ⟨⟨Nat.le_of_ble_eq_true rfl, Nat.le_of_ble_eq_true rfl, Nat.le_of_ble_eq_true rfl⟩, rfl, rfl, rfl⟩ hT
theorem s102_45 : aW d 102 45 [l0, l1, l2] (.int a :: S) h Q = aW d 102 46 [l0, l1, .int a] S h Q := ax_istore_n mt102 dX11_peak_45 (Nat.le_of_ble_eq_true rfl) rfl
theorem s102_46 : aW d 102 46 [l0, .int a, l2] S h Q = aW d 102 47 [l0, .int a, l2] (.int a :: S) h Q := ax_iload_n mt102 dX11_peak_46 rfl
theorem s102_47 : aW d 102 47 L S h Q = aW d 102 48 L (.int (nI 1) :: S) h Q := ax_iconst mt102 dX11_peak_47 ic_1
theorem s102_48 : aW d 102 48 L (.int b :: .int a :: S) h Q = (if a = b then aW d 102 51 L S h Q else aW d 102 53 L S h Q) := ax_icmp_ne mt102 dX11_peak_48 (by decide)
theorem s102_51 : aW d 102 51 [l0, l1, .int a] S h Q = aW d 102 52 [l0, l1, .int a] (.int a :: S) h Q := ax_iload_n mt102 dX11_peak_51 rfl
theorem s102_52 : aW d 102 52 L [.int a] h Q = Q (some (.int a)) h := ax_reti mt102 dX11_peak_52 rfl
theorem s102_53 : aW d 102 53 [l0, l1, .int a] S h Q = aW d 102 54 [l0, l1, .int a] (.int a :: S) h Q := ax_iload_n mt102 dX11_peak_53 rfl
theorem s102_54 : aW d 102 54 L (.int a :: S) h Q = (if a < 0 then aW d 102 57 L S h Q else aW d 102 61 L S h Q) := ax_if_ge mt102 dX11_peak_54 (by decide)
theorem s102_57 : aW d 102 57 L S h Q = aW d 102 58 L (.int (nI 0) :: S) h Q := ax_iconst mt102 dX11_peak_57 ic_0
theorem s102_58 : aW d 102 58 L S h Q = aW d 102 70 L S h Q := ax_goto mt102 dX11_peak_58 (by decide)
theorem s102_70 : aW d 102 70 L [.int a] h Q = Q (some (.int a)) h := ax_reti mt102 dX11_peak_70 rfl
theorem s102_61 : aW d 102 61 [.ref o, l1, l2] S h Q = aW d 102 62 [.ref o, l1, l2] (.ref o :: S) h Q := ax_aload_n mt102 dX11_peak_61 rfl
theorem s102_62 (hT : gT h o = some (13, 14)) : aW d 102 62 L (.ref o :: S) h Q = (isRf (gR h o 3) = true ∧ aW d 102 65 L (gR h o 3 :: S) h Q) := ax_geta mt102 dX11_peak_62 (by decide) ft_45088 fk_45088 hT
theorem s102_65 (hT : gT h o = some (12, 9)) : aW d 102 65 L (.ref o :: S) h Q = (isRf (gR h o 6) = true ∧ aW d 102 68 L (gR h o 6 :: S) h Q) := ax_geta mt102 dX11_peak_65 (by decide) ft_45196 fk_45196 hT
theorem s102_68 : aW d 102 68 [l0, l1, .int a] S h Q = aW d 102 69 [l0, l1, .int a] (.int a :: S) h Q := ax_iload_n mt102 dX11_peak_68 rfl
theorem s102_69 : aW d 102 69 L (.int a :: .ref o :: S) h Q = (inb a (aI h o) ∧ aW d 102 70 L (.int (gI h o a.toNatClampNeg) :: S) h Q) := ax_iald mt102 dX11_peak_69
theorem s102_9 : aW d 102 9 L S h Q = aW d 102 11 L (.int ((-5)) :: S) h Q := ax_bipush mt102 dX11_peak_9 bp_m5
theorem s102_11 : aW d 102 11 L [.int a] h Q = Q (some (.int a)) h := ax_reti mt102 dX11_peak_11 rfl
-- method 103: BufferRoom.bufferTold(II)I
theorem dX11_bufferTold_0 : decode cX11_bufferTold 0 = .ok (.aload_n 0, 1) := by decide +kernel
theorem dX11_bufferTold_1 : decode cX11_bufferTold 1 = .ok (.getfield 19, 3) := by decide +kernel
theorem dX11_bufferTold_4 : decode cX11_bufferTold 4 = .ok (.iload_n 1, 1) := by decide +kernel
theorem dX11_bufferTold_5 : decode cX11_bufferTold 5 = .ok (.invokevirtual 157, 3) := by decide +kernel
theorem dX11_bufferTold_8 : decode cX11_bufferTold 8 = .ok (.ifCond .ne 6, 3) := by decide +kernel
theorem dX11_bufferTold_11 : decode cX11_bufferTold 11 = .ok (.bipush (-5), 2) := by decide +kernel
theorem dX11_bufferTold_13 : decode cX11_bufferTold 13 = .ok (.ireturn, 1) := by decide +kernel
theorem dX11_bufferTold_14 : decode cX11_bufferTold 14 = .ok (.iload_n 2, 1) := by decide +kernel
theorem dX11_bufferTold_15 : decode cX11_bufferTold 15 = .ok (.ifCond .lt 8, 3) := by decide +kernel
theorem dX11_bufferTold_18 : decode cX11_bufferTold 18 = .ok (.iload_n 2, 1) := by decide +kernel
theorem dX11_bufferTold_19 : decode cX11_bufferTold 19 = .ok (.iconst 4, 1) := by decide +kernel
theorem dX11_bufferTold_20 : decode cX11_bufferTold 20 = .ok (.if_icmp .le 6, 3) := by decide +kernel
theorem dX11_bufferTold_23 : decode cX11_bufferTold 23 = .ok (.bipush (-7), 2) := by decide +kernel
theorem dX11_bufferTold_25 : decode cX11_bufferTold 25 = .ok (.ireturn, 1) := by decide +kernel
theorem dX11_bufferTold_26 : decode cX11_bufferTold 26 = .ok (.iload_n 2, 1) := by decide +kernel
theorem dX11_bufferTold_27 : decode cX11_bufferTold 27 = .ok (.iconst 2, 1) := by decide +kernel
theorem dX11_bufferTold_28 : decode cX11_bufferTold 28 = .ok (.if_icmp .le 16, 3) := by decide +kernel
theorem dX11_bufferTold_31 : decode cX11_bufferTold 31 = .ok (.aload_n 0, 1) := by decide +kernel
theorem dX11_bufferTold_32 : decode cX11_bufferTold 32 = .ok (.getfield 32, 3) := by decide +kernel
theorem dX11_bufferTold_35 : decode cX11_bufferTold 35 = .ok (.getfield 146, 3) := by decide +kernel
theorem dX11_bufferTold_38 : decode cX11_bufferTold 38 = .ok (.ifCond .ne 6, 3) := by decide +kernel
theorem dX11_bufferTold_41 : decode cX11_bufferTold 41 = .ok (.bipush (-3), 2) := by decide +kernel
theorem dX11_bufferTold_43 : decode cX11_bufferTold 43 = .ok (.ireturn, 1) := by decide +kernel
theorem dX11_bufferTold_44 : decode cX11_bufferTold 44 = .ok (.iload_n 2, 1) := by decide +kernel
theorem dX11_bufferTold_45 : decode cX11_bufferTold 45 = .ok (.tableswitch 82 0 3 #[31, 44, 54, 72], 31) := by decide +kernel
theorem dX11_bufferTold_76 : decode cX11_bufferTold 76 = .ok (.aload_n 0, 1) := by decide +kernel
theorem dX11_bufferTold_77 : decode cX11_bufferTold 77 = .ok (.getfield 32, 3) := by decide +kernel
theorem dX11_bufferTold_80 : decode cX11_bufferTold 80 = .ok (.getfield 160, 3) := by decide +kernel
theorem dX11_bufferTold_83 : decode cX11_bufferTold 83 = .ok (.getfield 164, 3) := by decide +kernel
theorem dX11_bufferTold_86 : decode cX11_bufferTold 86 = .ok (.iload_n 1, 1) := by decide +kernel
theorem dX11_bufferTold_87 : decode cX11_bufferTold 87 = .ok (.iaload, 1) := by decide +kernel
theorem dX11_bufferTold_88 : decode cX11_bufferTold 88 = .ok (.ireturn, 1) := by decide +kernel
theorem dX11_bufferTold_89 : decode cX11_bufferTold 89 = .ok (.aload_n 0, 1) := by decide +kernel
theorem dX11_bufferTold_90 : decode cX11_bufferTold 90 = .ok (.getfield 19, 3) := by decide +kernel
theorem dX11_bufferTold_93 : decode cX11_bufferTold 93 = .ok (.getfield 168, 3) := by decide +kernel
theorem dX11_bufferTold_96 : decode cX11_bufferTold 96 = .ok (.iload_n 1, 1) := by decide +kernel
theorem dX11_bufferTold_97 : decode cX11_bufferTold 97 = .ok (.iaload, 1) := by decide +kernel
theorem dX11_bufferTold_98 : decode cX11_bufferTold 98 = .ok (.ireturn, 1) := by decide +kernel
theorem dX11_bufferTold_99 : decode cX11_bufferTold 99 = .ok (.aload_n 0, 1) := by decide +kernel
theorem dX11_bufferTold_100 : decode cX11_bufferTold 100 = .ok (.getfield 19, 3) := by decide +kernel
theorem dX11_bufferTold_103 : decode cX11_bufferTold 103 = .ok (.getfield 171, 3) := by decide +kernel
theorem dX11_bufferTold_106 : decode cX11_bufferTold 106 = .ok (.iload_n 1, 1) := by decide +kernel
theorem dX11_bufferTold_107 : decode cX11_bufferTold 107 = .ok (.baload, 1) := by decide +kernel
theorem dX11_bufferTold_108 : decode cX11_bufferTold 108 = .ok (.ifCond .eq 7, 3) := by decide +kernel
theorem dX11_bufferTold_111 : decode cX11_bufferTold 111 = .ok (.iconst 1, 1) := by decide +kernel
theorem dX11_bufferTold_112 : decode cX11_bufferTold 112 = .ok (.goto 4, 3) := by decide +kernel
theorem dX11_bufferTold_115 : decode cX11_bufferTold 115 = .ok (.iconst 0, 1) := by decide +kernel
theorem dX11_bufferTold_116 : decode cX11_bufferTold 116 = .ok (.ireturn, 1) := by decide +kernel
theorem dX11_bufferTold_117 : decode cX11_bufferTold 117 = .ok (.aload_n 0, 1) := by decide +kernel
theorem dX11_bufferTold_118 : decode cX11_bufferTold 118 = .ok (.getfield 32, 3) := by decide +kernel
theorem dX11_bufferTold_121 : decode cX11_bufferTold 121 = .ok (.getfield 175, 3) := by decide +kernel
theorem dX11_bufferTold_124 : decode cX11_bufferTold 124 = .ok (.iload_n 1, 1) := by decide +kernel
theorem dX11_bufferTold_125 : decode cX11_bufferTold 125 = .ok (.iaload, 1) := by decide +kernel
theorem dX11_bufferTold_126 : decode cX11_bufferTold 126 = .ok (.ireturn, 1) := by decide +kernel
theorem dX11_bufferTold_127 : decode cX11_bufferTold 127 = .ok (.aload_n 0, 1) := by decide +kernel
theorem dX11_bufferTold_128 : decode cX11_bufferTold 128 = .ok (.getfield 32, 3) := by decide +kernel
theorem dX11_bufferTold_131 : decode cX11_bufferTold 131 = .ok (.getfield 178, 3) := by decide +kernel
theorem dX11_bufferTold_134 : decode cX11_bufferTold 134 = .ok (.iload_n 1, 1) := by decide +kernel
theorem dX11_bufferTold_135 : decode cX11_bufferTold 135 = .ok (.iaload, 1) := by decide +kernel
theorem dX11_bufferTold_136 : decode cX11_bufferTold 136 = .ok (.ireturn, 1) := by decide +kernel
theorem s103_0 : aW d 103 0 [.ref o, l1, l2] S h Q = aW d 103 1 [.ref o, l1, l2] (.ref o :: S) h Q := ax_aload_n mt103 dX11_bufferTold_0 rfl
theorem s103_1 (hT : gT h o = some (13, 14)) : aW d 103 1 L (.ref o :: S) h Q = (isRf (gR h o 1) = true ∧ aW d 103 4 L (gR h o 1 :: S) h Q) := ax_geta mt103 dX11_bufferTold_1 (by decide) ft_45075 fk_45075 hT
theorem s103_4 : aW d 103 4 [l0, .int a, l2] S h Q = aW d 103 5 [l0, .int a, l2] (.int a :: S) h Q := ax_iload_n mt103 dX11_bufferTold_4 rfl
theorem s103_5 (hT : gT h o = some (8, 12)) : aW (d + 1) 103 5 L (.int x0 :: .ref o :: []) h Q = aM d 44 (.ref o :: [.int x0]) h (fun v h1 => aW (d + 1) 103 8 L (ab_ps v []) h1 Q) := ax_invv mt103 dX11_bufferTold_5 (by decide) ct_45213 (.inl rfl) mt44 ⟨⟨Nat.le_of_ble_eq_true rfl, Nat.le_of_ble_eq_true rfl, Nat.le_of_ble_eq_true rfl⟩, rfl, rfl, rfl⟩ hT
theorem s103_8 : aW d 103 8 L (.int a :: S) h Q = (if a = 0 then aW d 103 11 L S h Q else aW d 103 14 L S h Q) := ax_if_ne mt103 dX11_bufferTold_8 (by decide)
theorem s103_11 : aW d 103 11 L S h Q = aW d 103 13 L (.int ((-5)) :: S) h Q := ax_bipush mt103 dX11_bufferTold_11 bp_m5
theorem s103_13 : aW d 103 13 L [.int a] h Q = Q (some (.int a)) h := ax_reti mt103 dX11_bufferTold_13 rfl
theorem s103_14 : aW d 103 14 [l0, l1, .int a] S h Q = aW d 103 15 [l0, l1, .int a] (.int a :: S) h Q := ax_iload_n mt103 dX11_bufferTold_14 rfl
theorem s103_15 : aW d 103 15 L (.int a :: S) h Q = (if a < 0 then aW d 103 23 L S h Q else aW d 103 18 L S h Q) := ax_if_lt mt103 dX11_bufferTold_15 (by decide)
theorem s103_18 : aW d 103 18 [l0, l1, .int a] S h Q = aW d 103 19 [l0, l1, .int a] (.int a :: S) h Q := ax_iload_n mt103 dX11_bufferTold_18 rfl
theorem s103_19 : aW d 103 19 L S h Q = aW d 103 20 L (.int (nI 4) :: S) h Q := ax_iconst mt103 dX11_bufferTold_19 ic_4
theorem s103_20 : aW d 103 20 L (.int b :: .int a :: S) h Q = (if b < a then aW d 103 23 L S h Q else aW d 103 26 L S h Q) := ax_icmp_le mt103 dX11_bufferTold_20 (by decide)
theorem s103_26 : aW d 103 26 [l0, l1, .int a] S h Q = aW d 103 27 [l0, l1, .int a] (.int a :: S) h Q := ax_iload_n mt103 dX11_bufferTold_26 rfl
theorem s103_27 : aW d 103 27 L S h Q = aW d 103 28 L (.int (nI 2) :: S) h Q := ax_iconst mt103 dX11_bufferTold_27 ic_2
theorem s103_28 : aW d 103 28 L (.int b :: .int a :: S) h Q = (if b < a then aW d 103 31 L S h Q else aW d 103 44 L S h Q) := ax_icmp_le mt103 dX11_bufferTold_28 (by decide)
theorem s103_31 : aW d 103 31 [.ref o, l1, l2] S h Q = aW d 103 32 [.ref o, l1, l2] (.ref o :: S) h Q := ax_aload_n mt103 dX11_bufferTold_31 rfl
theorem s103_32 (hT : gT h o = some (13, 14)) : aW d 103 32 L (.ref o :: S) h Q = (isRf (gR h o 3) = true ∧ aW d 103 35 L (gR h o 3 :: S) h Q) := ax_geta mt103 dX11_bufferTold_32 (by decide) ft_45088 fk_45088 hT
theorem s103_35 (hT : gT h o = some (12, 9)) : aW d 103 35 L (.ref o :: S) h Q = aW d 103 38 L (.int (gI h o 3) :: S) h Q := ax_geti mt103 dX11_bufferTold_35 (by decide) ft_45202 fk_45202 hT
theorem s103_38 : aW d 103 38 L (.int a :: S) h Q = (if a = 0 then aW d 103 41 L S h Q else aW d 103 44 L S h Q) := ax_if_ne mt103 dX11_bufferTold_38 (by decide)
theorem s103_41 : aW d 103 41 L S h Q = aW d 103 43 L (.int ((-3)) :: S) h Q := ax_bipush mt103 dX11_bufferTold_41 bp_m3
theorem s103_43 : aW d 103 43 L [.int a] h Q = Q (some (.int a)) h := ax_reti mt103 dX11_bufferTold_43 rfl
theorem s103_44 : aW d 103 44 [l0, l1, .int a] S h Q = aW d 103 45 [l0, l1, .int a] (.int a :: S) h Q := ax_iload_n mt103 dX11_bufferTold_44 rfl
set_option maxRecDepth 100000 in
theorem s103_45 : aW d 103 45 L (.int a :: S) h Q = (if a = nI 0 then aW d 103 76 L S h Q else (if a = nI 1 then aW d 103 89 L S h Q else (if a = nI 2 then aW d 103 99 L S h Q else (if a = nI 3 then aW d 103 117 L S h Q else aW d 103 127 L S h Q)))) := by
  by_cases e0 : a = nI 0
  · rw [if_pos e0]
    subst e0
    exact ax_tabI (off := 31) mt103 dX11_bufferTold_45 (by decide +kernel) (by decide +kernel) (by decide)
  rw [if_neg e0]
  have k0 := lv_neT e0 (show (nI 0 : Int32).toInt = 0 by decide +kernel)
  by_cases e1 : a = nI 1
  · rw [if_pos e1]
    subst e1
    exact ax_tabI (off := 44) mt103 dX11_bufferTold_45 (by decide +kernel) (by decide +kernel) (by decide)
  rw [if_neg e1]
  have k1 := lv_neT e1 (show (nI 1 : Int32).toInt = 1 by decide +kernel)
  by_cases e2 : a = nI 2
  · rw [if_pos e2]
    subst e2
    exact ax_tabI (off := 54) mt103 dX11_bufferTold_45 (by decide +kernel) (by decide +kernel) (by decide)
  rw [if_neg e2]
  have k2 := lv_neT e2 (show (nI 2 : Int32).toInt = 2 by decide +kernel)
  by_cases e3 : a = nI 3
  · rw [if_pos e3]
    subst e3
    exact ax_tabI (off := 72) mt103 dX11_bufferTold_45 (by decide +kernel) (by decide +kernel) (by decide)
  rw [if_neg e3]
  have k3 := lv_neT e3 (show (nI 3 : Int32).toInt = 3 by decide +kernel)
  exact ax_tabO mt103 dX11_bufferTold_45 (by omega) (by decide)
theorem s103_117 : aW d 103 117 [.ref o, l1, l2] S h Q = aW d 103 118 [.ref o, l1, l2] (.ref o :: S) h Q := ax_aload_n mt103 dX11_bufferTold_117 rfl
theorem s103_118 (hT : gT h o = some (13, 14)) : aW d 103 118 L (.ref o :: S) h Q = (isRf (gR h o 3) = true ∧ aW d 103 121 L (gR h o 3 :: S) h Q) := ax_geta mt103 dX11_bufferTold_118 (by decide) ft_45088 fk_45088 hT
theorem s103_121 (hT : gT h o = some (12, 9)) : aW d 103 121 L (.ref o :: S) h Q = (isRf (gR h o 7) = true ∧ aW d 103 124 L (gR h o 7 :: S) h Q) := ax_geta mt103 dX11_bufferTold_121 (by decide) ft_45231 fk_45231 hT
theorem s103_124 : aW d 103 124 [l0, .int a, l2] S h Q = aW d 103 125 [l0, .int a, l2] (.int a :: S) h Q := ax_iload_n mt103 dX11_bufferTold_124 rfl
theorem s103_125 : aW d 103 125 L (.int a :: .ref o :: S) h Q = (inb a (aI h o) ∧ aW d 103 126 L (.int (gI h o a.toNatClampNeg) :: S) h Q) := ax_iald mt103 dX11_bufferTold_125
theorem s103_126 : aW d 103 126 L [.int a] h Q = Q (some (.int a)) h := ax_reti mt103 dX11_bufferTold_126 rfl
theorem s103_99 : aW d 103 99 [.ref o, l1, l2] S h Q = aW d 103 100 [.ref o, l1, l2] (.ref o :: S) h Q := ax_aload_n mt103 dX11_bufferTold_99 rfl
theorem s103_100 (hT : gT h o = some (13, 14)) : aW d 103 100 L (.ref o :: S) h Q = (isRf (gR h o 1) = true ∧ aW d 103 103 L (gR h o 1 :: S) h Q) := ax_geta mt103 dX11_bufferTold_100 (by decide) ft_45075 fk_45075 hT
theorem s103_103 (hT : gT h o = some (8, 12)) : aW d 103 103 L (.ref o :: S) h Q = (isRf (gR h o 3) = true ∧ aW d 103 106 L (gR h o 3 :: S) h Q) := ax_geta mt103 dX11_bufferTold_103 (by decide) ft_45227 fk_45227 hT
theorem s103_106 : aW d 103 106 [l0, .int a, l2] S h Q = aW d 103 107 [l0, .int a, l2] (.int a :: S) h Q := ax_iload_n mt103 dX11_bufferTold_106 rfl
theorem s103_107 : aW d 103 107 L (.int a :: .ref o :: S) h Q = (inb a (aZ h o) ∧ aW d 103 108 L (.int (gI h o a.toNatClampNeg) :: S) h Q) := ax_zald mt103 dX11_bufferTold_107
theorem s103_108 : aW d 103 108 L (.int a :: S) h Q = (if a = 0 then aW d 103 115 L S h Q else aW d 103 111 L S h Q) := ax_if_eq mt103 dX11_bufferTold_108 (by decide)
theorem s103_111 : aW d 103 111 L S h Q = aW d 103 112 L (.int (nI 1) :: S) h Q := ax_iconst mt103 dX11_bufferTold_111 ic_1
theorem s103_112 : aW d 103 112 L S h Q = aW d 103 116 L S h Q := ax_goto mt103 dX11_bufferTold_112 (by decide)
theorem s103_116 : aW d 103 116 L [.int a] h Q = Q (some (.int a)) h := ax_reti mt103 dX11_bufferTold_116 rfl
theorem s103_115 : aW d 103 115 L S h Q = aW d 103 116 L (.int (nI 0) :: S) h Q := ax_iconst mt103 dX11_bufferTold_115 ic_0
theorem s103_89 : aW d 103 89 [.ref o, l1, l2] S h Q = aW d 103 90 [.ref o, l1, l2] (.ref o :: S) h Q := ax_aload_n mt103 dX11_bufferTold_89 rfl
theorem s103_90 (hT : gT h o = some (13, 14)) : aW d 103 90 L (.ref o :: S) h Q = (isRf (gR h o 1) = true ∧ aW d 103 93 L (gR h o 1 :: S) h Q) := ax_geta mt103 dX11_bufferTold_90 (by decide) ft_45075 fk_45075 hT
theorem s103_93 (hT : gT h o = some (8, 12)) : aW d 103 93 L (.ref o :: S) h Q = (isRf (gR h o 4) = true ∧ aW d 103 96 L (gR h o 4 :: S) h Q) := ax_geta mt103 dX11_bufferTold_93 (by decide) ft_45224 fk_45224 hT
theorem s103_96 : aW d 103 96 [l0, .int a, l2] S h Q = aW d 103 97 [l0, .int a, l2] (.int a :: S) h Q := ax_iload_n mt103 dX11_bufferTold_96 rfl
theorem s103_97 : aW d 103 97 L (.int a :: .ref o :: S) h Q = (inb a (aI h o) ∧ aW d 103 98 L (.int (gI h o a.toNatClampNeg) :: S) h Q) := ax_iald mt103 dX11_bufferTold_97
theorem s103_98 : aW d 103 98 L [.int a] h Q = Q (some (.int a)) h := ax_reti mt103 dX11_bufferTold_98 rfl
theorem s103_76 : aW d 103 76 [.ref o, l1, l2] S h Q = aW d 103 77 [.ref o, l1, l2] (.ref o :: S) h Q := ax_aload_n mt103 dX11_bufferTold_76 rfl
theorem s103_77 (hT : gT h o = some (13, 14)) : aW d 103 77 L (.ref o :: S) h Q = (isRf (gR h o 3) = true ∧ aW d 103 80 L (gR h o 3 :: S) h Q) := ax_geta mt103 dX11_bufferTold_77 (by decide) ft_45088 fk_45088 hT
theorem s103_80 (hT : gT h o = some (12, 9)) : aW d 103 80 L (.ref o :: S) h Q = (isRf (gR h o 0) = true ∧ aW d 103 83 L (gR h o 0 :: S) h Q) := ax_geta mt103 dX11_bufferTold_80 (by decide) ft_45216 fk_45216 hT
theorem s103_83 (hT : gT h o = some (5, 4)) : aW d 103 83 L (.ref o :: S) h Q = (isRf (gR h o 1) = true ∧ aW d 103 86 L (gR h o 1 :: S) h Q) := ax_geta mt103 dX11_bufferTold_83 (by decide) ft_45220 fk_45220 hT
theorem s103_86 : aW d 103 86 [l0, .int a, l2] S h Q = aW d 103 87 [l0, .int a, l2] (.int a :: S) h Q := ax_iload_n mt103 dX11_bufferTold_86 rfl
theorem s103_87 : aW d 103 87 L (.int a :: .ref o :: S) h Q = (inb a (aI h o) ∧ aW d 103 88 L (.int (gI h o a.toNatClampNeg) :: S) h Q) := ax_iald mt103 dX11_bufferTold_87
theorem s103_88 : aW d 103 88 L [.int a] h Q = Q (some (.int a)) h := ax_reti mt103 dX11_bufferTold_88 rfl
theorem s103_127 : aW d 103 127 [.ref o, l1, l2] S h Q = aW d 103 128 [.ref o, l1, l2] (.ref o :: S) h Q := ax_aload_n mt103 dX11_bufferTold_127 rfl
theorem s103_128 (hT : gT h o = some (13, 14)) : aW d 103 128 L (.ref o :: S) h Q = (isRf (gR h o 3) = true ∧ aW d 103 131 L (gR h o 3 :: S) h Q) := ax_geta mt103 dX11_bufferTold_128 (by decide) ft_45088 fk_45088 hT
theorem s103_131 (hT : gT h o = some (12, 9)) : aW d 103 131 L (.ref o :: S) h Q = (isRf (gR h o 8) = true ∧ aW d 103 134 L (gR h o 8 :: S) h Q) := ax_geta mt103 dX11_bufferTold_131 (by decide) ft_45234 fk_45234 hT
theorem s103_134 : aW d 103 134 [l0, .int a, l2] S h Q = aW d 103 135 [l0, .int a, l2] (.int a :: S) h Q := ax_iload_n mt103 dX11_bufferTold_134 rfl
theorem s103_135 : aW d 103 135 L (.int a :: .ref o :: S) h Q = (inb a (aI h o) ∧ aW d 103 136 L (.int (gI h o a.toNatClampNeg) :: S) h Q) := ax_iald mt103 dX11_bufferTold_135
theorem s103_136 : aW d 103 136 L [.int a] h Q = Q (some (.int a)) h := ax_reti mt103 dX11_bufferTold_136 rfl
theorem s103_23 : aW d 103 23 L S h Q = aW d 103 25 L (.int ((-7)) :: S) h Q := ax_bipush mt103 dX11_bufferTold_23 bp_m7
theorem s103_25 : aW d 103 25 L [.int a] h Q = Q (some (.int a)) h := ax_reti mt103 dX11_bufferTold_25 rfl
-- method 104: BufferRoom.stepTold(II)I
theorem dX11_stepTold_0 : decode cX11_stepTold 0 = .ok (.aload_n 0, 1) := by decide +kernel
theorem dX11_stepTold_1 : decode cX11_stepTold 1 = .ok (.getfield 19, 3) := by decide +kernel
theorem dX11_stepTold_4 : decode cX11_stepTold 4 = .ok (.iload_n 1, 1) := by decide +kernel
theorem dX11_stepTold_5 : decode cX11_stepTold 5 = .ok (.invokevirtual 181, 3) := by decide +kernel
theorem dX11_stepTold_8 : decode cX11_stepTold 8 = .ok (.ifCond .ne 6, 3) := by decide +kernel
theorem dX11_stepTold_11 : decode cX11_stepTold 11 = .ok (.bipush (-5), 2) := by decide +kernel
theorem dX11_stepTold_13 : decode cX11_stepTold 13 = .ok (.ireturn, 1) := by decide +kernel
theorem dX11_stepTold_14 : decode cX11_stepTold 14 = .ok (.iload_n 2, 1) := by decide +kernel
theorem dX11_stepTold_15 : decode cX11_stepTold 15 = .ok (.ifCond .lt 19, 3) := by decide +kernel
theorem dX11_stepTold_18 : decode cX11_stepTold 18 = .ok (.iload_n 2, 1) := by decide +kernel
theorem dX11_stepTold_19 : decode cX11_stepTold 19 = .ok (.bipush 6, 2) := by decide +kernel
theorem dX11_stepTold_21 : decode cX11_stepTold 21 = .ok (.aload_n 0, 1) := by decide +kernel
theorem dX11_stepTold_22 : decode cX11_stepTold 22 = .ok (.getfield 19, 3) := by decide +kernel
theorem dX11_stepTold_25 : decode cX11_stepTold 25 = .ok (.getfield 184, 3) := by decide +kernel
theorem dX11_stepTold_28 : decode cX11_stepTold 28 = .ok (.iload_n 1, 1) := by decide +kernel
theorem dX11_stepTold_29 : decode cX11_stepTold 29 = .ok (.iaload, 1) := by decide +kernel
theorem dX11_stepTold_30 : decode cX11_stepTold 30 = .ok (.iadd, 1) := by decide +kernel
theorem dX11_stepTold_31 : decode cX11_stepTold 31 = .ok (.if_icmp .lt 6, 3) := by decide +kernel
theorem dX11_stepTold_34 : decode cX11_stepTold 34 = .ok (.bipush (-7), 2) := by decide +kernel
theorem dX11_stepTold_36 : decode cX11_stepTold 36 = .ok (.ireturn, 1) := by decide +kernel
theorem dX11_stepTold_37 : decode cX11_stepTold 37 = .ok (.iload_n 2, 1) := by decide +kernel
theorem dX11_stepTold_38 : decode cX11_stepTold 38 = .ok (.tableswitch 111 0 5 #[38, 48, 57, 67, 77, 90], 38) := by decide +kernel
theorem dX11_stepTold_76 : decode cX11_stepTold 76 = .ok (.aload_n 0, 1) := by decide +kernel
theorem dX11_stepTold_77 : decode cX11_stepTold 77 = .ok (.getfield 19, 3) := by decide +kernel
theorem dX11_stepTold_80 : decode cX11_stepTold 80 = .ok (.getfield 187, 3) := by decide +kernel
theorem dX11_stepTold_83 : decode cX11_stepTold 83 = .ok (.iload_n 1, 1) := by decide +kernel
theorem dX11_stepTold_84 : decode cX11_stepTold 84 = .ok (.iaload, 1) := by decide +kernel
theorem dX11_stepTold_85 : decode cX11_stepTold 85 = .ok (.ireturn, 1) := by decide +kernel
theorem dX11_stepTold_86 : decode cX11_stepTold 86 = .ok (.aload_n 0, 1) := by decide +kernel
theorem dX11_stepTold_87 : decode cX11_stepTold 87 = .ok (.getfield 19, 3) := by decide +kernel
theorem dX11_stepTold_90 : decode cX11_stepTold 90 = .ok (.iload_n 1, 1) := by decide +kernel
theorem dX11_stepTold_91 : decode cX11_stepTold 91 = .ok (.invokevirtual 190, 3) := by decide +kernel
theorem dX11_stepTold_94 : decode cX11_stepTold 94 = .ok (.ireturn, 1) := by decide +kernel
theorem dX11_stepTold_95 : decode cX11_stepTold 95 = .ok (.aload_n 0, 1) := by decide +kernel
theorem dX11_stepTold_96 : decode cX11_stepTold 96 = .ok (.getfield 19, 3) := by decide +kernel
theorem dX11_stepTold_99 : decode cX11_stepTold 99 = .ok (.getfield 193, 3) := by decide +kernel
theorem dX11_stepTold_102 : decode cX11_stepTold 102 = .ok (.iload_n 1, 1) := by decide +kernel
theorem dX11_stepTold_103 : decode cX11_stepTold 103 = .ok (.iaload, 1) := by decide +kernel
theorem dX11_stepTold_104 : decode cX11_stepTold 104 = .ok (.ireturn, 1) := by decide +kernel
theorem dX11_stepTold_105 : decode cX11_stepTold 105 = .ok (.aload_n 0, 1) := by decide +kernel
theorem dX11_stepTold_106 : decode cX11_stepTold 106 = .ok (.getfield 19, 3) := by decide +kernel
theorem dX11_stepTold_109 : decode cX11_stepTold 109 = .ok (.getfield 184, 3) := by decide +kernel
theorem dX11_stepTold_112 : decode cX11_stepTold 112 = .ok (.iload_n 1, 1) := by decide +kernel
theorem dX11_stepTold_113 : decode cX11_stepTold 113 = .ok (.iaload, 1) := by decide +kernel
theorem dX11_stepTold_114 : decode cX11_stepTold 114 = .ok (.ireturn, 1) := by decide +kernel
theorem dX11_stepTold_115 : decode cX11_stepTold 115 = .ok (.aload_n 0, 1) := by decide +kernel
theorem dX11_stepTold_116 : decode cX11_stepTold 116 = .ok (.getfield 32, 3) := by decide +kernel
theorem dX11_stepTold_119 : decode cX11_stepTold 119 = .ok (.getfield 160, 3) := by decide +kernel
theorem dX11_stepTold_122 : decode cX11_stepTold 122 = .ok (.getfield 196, 3) := by decide +kernel
theorem dX11_stepTold_125 : decode cX11_stepTold 125 = .ok (.iload_n 1, 1) := by decide +kernel
theorem dX11_stepTold_126 : decode cX11_stepTold 126 = .ok (.iaload, 1) := by decide +kernel
theorem dX11_stepTold_127 : decode cX11_stepTold 127 = .ok (.ireturn, 1) := by decide +kernel
theorem dX11_stepTold_128 : decode cX11_stepTold 128 = .ok (.aload_n 0, 1) := by decide +kernel
theorem dX11_stepTold_129 : decode cX11_stepTold 129 = .ok (.getfield 32, 3) := by decide +kernel
theorem dX11_stepTold_132 : decode cX11_stepTold 132 = .ok (.getfield 160, 3) := by decide +kernel
theorem dX11_stepTold_135 : decode cX11_stepTold 135 = .ok (.getfield 199, 3) := by decide +kernel
theorem dX11_stepTold_138 : decode cX11_stepTold 138 = .ok (.iload_n 1, 1) := by decide +kernel
theorem dX11_stepTold_139 : decode cX11_stepTold 139 = .ok (.baload, 1) := by decide +kernel
theorem dX11_stepTold_140 : decode cX11_stepTold 140 = .ok (.ifCond .eq 7, 3) := by decide +kernel
theorem dX11_stepTold_143 : decode cX11_stepTold 143 = .ok (.iconst 1, 1) := by decide +kernel
theorem dX11_stepTold_144 : decode cX11_stepTold 144 = .ok (.goto 4, 3) := by decide +kernel
theorem dX11_stepTold_147 : decode cX11_stepTold 147 = .ok (.iconst 0, 1) := by decide +kernel
theorem dX11_stepTold_148 : decode cX11_stepTold 148 = .ok (.ireturn, 1) := by decide +kernel
theorem dX11_stepTold_149 : decode cX11_stepTold 149 = .ok (.aload_n 0, 1) := by decide +kernel
theorem dX11_stepTold_150 : decode cX11_stepTold 150 = .ok (.getfield 19, 3) := by decide +kernel
theorem dX11_stepTold_153 : decode cX11_stepTold 153 = .ok (.getfield 202, 3) := by decide +kernel
theorem dX11_stepTold_156 : decode cX11_stepTold 156 = .ok (.iload_n 1, 1) := by decide +kernel
theorem dX11_stepTold_157 : decode cX11_stepTold 157 = .ok (.iconst 4, 1) := by decide +kernel
theorem dX11_stepTold_158 : decode cX11_stepTold 158 = .ok (.imul, 1) := by decide +kernel
theorem dX11_stepTold_159 : decode cX11_stepTold 159 = .ok (.iload_n 2, 1) := by decide +kernel
theorem dX11_stepTold_160 : decode cX11_stepTold 160 = .ok (.iadd, 1) := by decide +kernel
theorem dX11_stepTold_161 : decode cX11_stepTold 161 = .ok (.bipush 6, 2) := by decide +kernel
theorem dX11_stepTold_163 : decode cX11_stepTold 163 = .ok (.isub, 1) := by decide +kernel
theorem dX11_stepTold_164 : decode cX11_stepTold 164 = .ok (.iaload, 1) := by decide +kernel
theorem dX11_stepTold_165 : decode cX11_stepTold 165 = .ok (.ireturn, 1) := by decide +kernel
theorem s104_0 : aW d 104 0 [.ref o, l1, l2] S h Q = aW d 104 1 [.ref o, l1, l2] (.ref o :: S) h Q := ax_aload_n mt104 dX11_stepTold_0 rfl
theorem s104_1 (hT : gT h o = some (13, 14)) : aW d 104 1 L (.ref o :: S) h Q = (isRf (gR h o 1) = true ∧ aW d 104 4 L (gR h o 1 :: S) h Q) := ax_geta mt104 dX11_stepTold_1 (by decide) ft_45075 fk_45075 hT
theorem s104_4 : aW d 104 4 [l0, .int a, l2] S h Q = aW d 104 5 [l0, .int a, l2] (.int a :: S) h Q := ax_iload_n mt104 dX11_stepTold_4 rfl
theorem s104_5 (hT : gT h o = some (8, 12)) : aW (d + 1) 104 5 L (.int x0 :: .ref o :: []) h Q = aM d 45 (.ref o :: [.int x0]) h (fun v h1 => aW (d + 1) 104 8 L (ab_ps v []) h1 Q) := ax_invv mt104 dX11_stepTold_5 (by decide) ct_45237 (.inl rfl) mt45 ⟨⟨Nat.le_of_ble_eq_true rfl, Nat.le_of_ble_eq_true rfl, Nat.le_of_ble_eq_true rfl⟩, rfl, rfl, rfl⟩ hT
theorem s104_8 : aW d 104 8 L (.int a :: S) h Q = (if a = 0 then aW d 104 11 L S h Q else aW d 104 14 L S h Q) := ax_if_ne mt104 dX11_stepTold_8 (by decide)
theorem s104_11 : aW d 104 11 L S h Q = aW d 104 13 L (.int ((-5)) :: S) h Q := ax_bipush mt104 dX11_stepTold_11 bp_m5
theorem s104_13 : aW d 104 13 L [.int a] h Q = Q (some (.int a)) h := ax_reti mt104 dX11_stepTold_13 rfl
theorem s104_14 : aW d 104 14 [l0, l1, .int a] S h Q = aW d 104 15 [l0, l1, .int a] (.int a :: S) h Q := ax_iload_n mt104 dX11_stepTold_14 rfl
theorem s104_15 : aW d 104 15 L (.int a :: S) h Q = (if a < 0 then aW d 104 34 L S h Q else aW d 104 18 L S h Q) := ax_if_lt mt104 dX11_stepTold_15 (by decide)
theorem s104_18 : aW d 104 18 [l0, l1, .int a] S h Q = aW d 104 19 [l0, l1, .int a] (.int a :: S) h Q := ax_iload_n mt104 dX11_stepTold_18 rfl
theorem s104_19 : aW d 104 19 L S h Q = aW d 104 21 L (.int (nI 6) :: S) h Q := ax_bipush mt104 dX11_stepTold_19 bp_6
theorem s104_21 : aW d 104 21 [.ref o, l1, l2] S h Q = aW d 104 22 [.ref o, l1, l2] (.ref o :: S) h Q := ax_aload_n mt104 dX11_stepTold_21 rfl
theorem s104_22 (hT : gT h o = some (13, 14)) : aW d 104 22 L (.ref o :: S) h Q = (isRf (gR h o 1) = true ∧ aW d 104 25 L (gR h o 1 :: S) h Q) := ax_geta mt104 dX11_stepTold_22 (by decide) ft_45075 fk_45075 hT
theorem s104_25 (hT : gT h o = some (8, 12)) : aW d 104 25 L (.ref o :: S) h Q = (isRf (gR h o 10) = true ∧ aW d 104 28 L (gR h o 10 :: S) h Q) := ax_geta mt104 dX11_stepTold_25 (by decide) ft_45240 fk_45240 hT
theorem s104_28 : aW d 104 28 [l0, .int a, l2] S h Q = aW d 104 29 [l0, .int a, l2] (.int a :: S) h Q := ax_iload_n mt104 dX11_stepTold_28 rfl
theorem s104_29 : aW d 104 29 L (.int a :: .ref o :: S) h Q = (inb a (aI h o) ∧ aW d 104 30 L (.int (gI h o a.toNatClampNeg) :: S) h Q) := ax_iald mt104 dX11_stepTold_29
theorem s104_30 : aW d 104 30 L (.int b :: .int a :: S) h Q = aW d 104 31 L (.int (a + b) :: S) h Q := ax_iadd mt104 dX11_stepTold_30
theorem s104_31 : aW d 104 31 L (.int b :: .int a :: S) h Q = (if a < b then aW d 104 37 L S h Q else aW d 104 34 L S h Q) := ax_icmp_lt mt104 dX11_stepTold_31 (by decide)
theorem s104_37 : aW d 104 37 [l0, l1, .int a] S h Q = aW d 104 38 [l0, l1, .int a] (.int a :: S) h Q := ax_iload_n mt104 dX11_stepTold_37 rfl
set_option maxRecDepth 100000 in
theorem s104_38 : aW d 104 38 L (.int a :: S) h Q = (if a = nI 0 then aW d 104 76 L S h Q else (if a = nI 1 then aW d 104 86 L S h Q else (if a = nI 2 then aW d 104 95 L S h Q else (if a = nI 3 then aW d 104 105 L S h Q else (if a = nI 4 then aW d 104 115 L S h Q else (if a = nI 5 then aW d 104 128 L S h Q else aW d 104 149 L S h Q)))))) := by
  by_cases e0 : a = nI 0
  · rw [if_pos e0]
    subst e0
    exact ax_tabI (off := 38) mt104 dX11_stepTold_38 (by decide +kernel) (by decide +kernel) (by decide)
  rw [if_neg e0]
  have k0 := lv_neT e0 (show (nI 0 : Int32).toInt = 0 by decide +kernel)
  by_cases e1 : a = nI 1
  · rw [if_pos e1]
    subst e1
    exact ax_tabI (off := 48) mt104 dX11_stepTold_38 (by decide +kernel) (by decide +kernel) (by decide)
  rw [if_neg e1]
  have k1 := lv_neT e1 (show (nI 1 : Int32).toInt = 1 by decide +kernel)
  by_cases e2 : a = nI 2
  · rw [if_pos e2]
    subst e2
    exact ax_tabI (off := 57) mt104 dX11_stepTold_38 (by decide +kernel) (by decide +kernel) (by decide)
  rw [if_neg e2]
  have k2 := lv_neT e2 (show (nI 2 : Int32).toInt = 2 by decide +kernel)
  by_cases e3 : a = nI 3
  · rw [if_pos e3]
    subst e3
    exact ax_tabI (off := 67) mt104 dX11_stepTold_38 (by decide +kernel) (by decide +kernel) (by decide)
  rw [if_neg e3]
  have k3 := lv_neT e3 (show (nI 3 : Int32).toInt = 3 by decide +kernel)
  by_cases e4 : a = nI 4
  · rw [if_pos e4]
    subst e4
    exact ax_tabI (off := 77) mt104 dX11_stepTold_38 (by decide +kernel) (by decide +kernel) (by decide)
  rw [if_neg e4]
  have k4 := lv_neT e4 (show (nI 4 : Int32).toInt = 4 by decide +kernel)
  by_cases e5 : a = nI 5
  · rw [if_pos e5]
    subst e5
    exact ax_tabI (off := 90) mt104 dX11_stepTold_38 (by decide +kernel) (by decide +kernel) (by decide)
  rw [if_neg e5]
  have k5 := lv_neT e5 (show (nI 5 : Int32).toInt = 5 by decide +kernel)
  exact ax_tabO mt104 dX11_stepTold_38 (by omega) (by decide)
theorem s104_128 : aW d 104 128 [.ref o, l1, l2] S h Q = aW d 104 129 [.ref o, l1, l2] (.ref o :: S) h Q := ax_aload_n mt104 dX11_stepTold_128 rfl
theorem s104_129 (hT : gT h o = some (13, 14)) : aW d 104 129 L (.ref o :: S) h Q = (isRf (gR h o 3) = true ∧ aW d 104 132 L (gR h o 3 :: S) h Q) := ax_geta mt104 dX11_stepTold_129 (by decide) ft_45088 fk_45088 hT
theorem s104_132 (hT : gT h o = some (12, 9)) : aW d 104 132 L (.ref o :: S) h Q = (isRf (gR h o 0) = true ∧ aW d 104 135 L (gR h o 0 :: S) h Q) := ax_geta mt104 dX11_stepTold_132 (by decide) ft_45216 fk_45216 hT
theorem s104_135 (hT : gT h o = some (5, 4)) : aW d 104 135 L (.ref o :: S) h Q = (isRf (gR h o 3) = true ∧ aW d 104 138 L (gR h o 3 :: S) h Q) := ax_geta mt104 dX11_stepTold_135 (by decide) ft_45255 fk_45255 hT
theorem s104_138 : aW d 104 138 [l0, .int a, l2] S h Q = aW d 104 139 [l0, .int a, l2] (.int a :: S) h Q := ax_iload_n mt104 dX11_stepTold_138 rfl
theorem s104_139 : aW d 104 139 L (.int a :: .ref o :: S) h Q = (inb a (aZ h o) ∧ aW d 104 140 L (.int (gI h o a.toNatClampNeg) :: S) h Q) := ax_zald mt104 dX11_stepTold_139
theorem s104_140 : aW d 104 140 L (.int a :: S) h Q = (if a = 0 then aW d 104 147 L S h Q else aW d 104 143 L S h Q) := ax_if_eq mt104 dX11_stepTold_140 (by decide)
theorem s104_143 : aW d 104 143 L S h Q = aW d 104 144 L (.int (nI 1) :: S) h Q := ax_iconst mt104 dX11_stepTold_143 ic_1
theorem s104_144 : aW d 104 144 L S h Q = aW d 104 148 L S h Q := ax_goto mt104 dX11_stepTold_144 (by decide)
theorem s104_148 : aW d 104 148 L [.int a] h Q = Q (some (.int a)) h := ax_reti mt104 dX11_stepTold_148 rfl
theorem s104_147 : aW d 104 147 L S h Q = aW d 104 148 L (.int (nI 0) :: S) h Q := ax_iconst mt104 dX11_stepTold_147 ic_0
theorem s104_115 : aW d 104 115 [.ref o, l1, l2] S h Q = aW d 104 116 [.ref o, l1, l2] (.ref o :: S) h Q := ax_aload_n mt104 dX11_stepTold_115 rfl
theorem s104_116 (hT : gT h o = some (13, 14)) : aW d 104 116 L (.ref o :: S) h Q = (isRf (gR h o 3) = true ∧ aW d 104 119 L (gR h o 3 :: S) h Q) := ax_geta mt104 dX11_stepTold_116 (by decide) ft_45088 fk_45088 hT
theorem s104_119 (hT : gT h o = some (12, 9)) : aW d 104 119 L (.ref o :: S) h Q = (isRf (gR h o 0) = true ∧ aW d 104 122 L (gR h o 0 :: S) h Q) := ax_geta mt104 dX11_stepTold_119 (by decide) ft_45216 fk_45216 hT
theorem s104_122 (hT : gT h o = some (5, 4)) : aW d 104 122 L (.ref o :: S) h Q = (isRf (gR h o 2) = true ∧ aW d 104 125 L (gR h o 2 :: S) h Q) := ax_geta mt104 dX11_stepTold_122 (by decide) ft_45252 fk_45252 hT
theorem s104_125 : aW d 104 125 [l0, .int a, l2] S h Q = aW d 104 126 [l0, .int a, l2] (.int a :: S) h Q := ax_iload_n mt104 dX11_stepTold_125 rfl
theorem s104_126 : aW d 104 126 L (.int a :: .ref o :: S) h Q = (inb a (aI h o) ∧ aW d 104 127 L (.int (gI h o a.toNatClampNeg) :: S) h Q) := ax_iald mt104 dX11_stepTold_126
theorem s104_127 : aW d 104 127 L [.int a] h Q = Q (some (.int a)) h := ax_reti mt104 dX11_stepTold_127 rfl
theorem s104_105 : aW d 104 105 [.ref o, l1, l2] S h Q = aW d 104 106 [.ref o, l1, l2] (.ref o :: S) h Q := ax_aload_n mt104 dX11_stepTold_105 rfl
theorem s104_106 (hT : gT h o = some (13, 14)) : aW d 104 106 L (.ref o :: S) h Q = (isRf (gR h o 1) = true ∧ aW d 104 109 L (gR h o 1 :: S) h Q) := ax_geta mt104 dX11_stepTold_106 (by decide) ft_45075 fk_45075 hT
theorem s104_109 (hT : gT h o = some (8, 12)) : aW d 104 109 L (.ref o :: S) h Q = (isRf (gR h o 10) = true ∧ aW d 104 112 L (gR h o 10 :: S) h Q) := ax_geta mt104 dX11_stepTold_109 (by decide) ft_45240 fk_45240 hT
theorem s104_112 : aW d 104 112 [l0, .int a, l2] S h Q = aW d 104 113 [l0, .int a, l2] (.int a :: S) h Q := ax_iload_n mt104 dX11_stepTold_112 rfl
theorem s104_113 : aW d 104 113 L (.int a :: .ref o :: S) h Q = (inb a (aI h o) ∧ aW d 104 114 L (.int (gI h o a.toNatClampNeg) :: S) h Q) := ax_iald mt104 dX11_stepTold_113
theorem s104_114 : aW d 104 114 L [.int a] h Q = Q (some (.int a)) h := ax_reti mt104 dX11_stepTold_114 rfl
theorem s104_95 : aW d 104 95 [.ref o, l1, l2] S h Q = aW d 104 96 [.ref o, l1, l2] (.ref o :: S) h Q := ax_aload_n mt104 dX11_stepTold_95 rfl
theorem s104_96 (hT : gT h o = some (13, 14)) : aW d 104 96 L (.ref o :: S) h Q = (isRf (gR h o 1) = true ∧ aW d 104 99 L (gR h o 1 :: S) h Q) := ax_geta mt104 dX11_stepTold_96 (by decide) ft_45075 fk_45075 hT
theorem s104_99 (hT : gT h o = some (8, 12)) : aW d 104 99 L (.ref o :: S) h Q = (isRf (gR h o 9) = true ∧ aW d 104 102 L (gR h o 9 :: S) h Q) := ax_geta mt104 dX11_stepTold_99 (by decide) ft_45249 fk_45249 hT
theorem s104_102 : aW d 104 102 [l0, .int a, l2] S h Q = aW d 104 103 [l0, .int a, l2] (.int a :: S) h Q := ax_iload_n mt104 dX11_stepTold_102 rfl
theorem s104_103 : aW d 104 103 L (.int a :: .ref o :: S) h Q = (inb a (aI h o) ∧ aW d 104 104 L (.int (gI h o a.toNatClampNeg) :: S) h Q) := ax_iald mt104 dX11_stepTold_103
theorem s104_104 : aW d 104 104 L [.int a] h Q = Q (some (.int a)) h := ax_reti mt104 dX11_stepTold_104 rfl
theorem s104_86 : aW d 104 86 [.ref o, l1, l2] S h Q = aW d 104 87 [.ref o, l1, l2] (.ref o :: S) h Q := ax_aload_n mt104 dX11_stepTold_86 rfl
theorem s104_87 (hT : gT h o = some (13, 14)) : aW d 104 87 L (.ref o :: S) h Q = (isRf (gR h o 1) = true ∧ aW d 104 90 L (gR h o 1 :: S) h Q) := ax_geta mt104 dX11_stepTold_87 (by decide) ft_45075 fk_45075 hT
theorem s104_90 : aW d 104 90 [l0, .int a, l2] S h Q = aW d 104 91 [l0, .int a, l2] (.int a :: S) h Q := ax_iload_n mt104 dX11_stepTold_90 rfl
theorem s104_91 (hT : gT h o = some (8, 12)) : aW (d + 1) 104 91 L (.int x0 :: .ref o :: []) h Q = aM d 52 (.ref o :: [.int x0]) h (fun v h1 => aW (d + 1) 104 94 L (ab_ps v []) h1 Q) := ax_invv mt104 dX11_stepTold_91 (by decide) ct_45246 (.inl rfl) mt52 ⟨⟨Nat.le_of_ble_eq_true rfl, Nat.le_of_ble_eq_true rfl, Nat.le_of_ble_eq_true rfl⟩, rfl, rfl, rfl⟩ hT
theorem s104_94 : aW d 104 94 L [.int a] h Q = Q (some (.int a)) h := ax_reti mt104 dX11_stepTold_94 rfl
theorem s104_76 : aW d 104 76 [.ref o, l1, l2] S h Q = aW d 104 77 [.ref o, l1, l2] (.ref o :: S) h Q := ax_aload_n mt104 dX11_stepTold_76 rfl
theorem s104_77 (hT : gT h o = some (13, 14)) : aW d 104 77 L (.ref o :: S) h Q = (isRf (gR h o 1) = true ∧ aW d 104 80 L (gR h o 1 :: S) h Q) := ax_geta mt104 dX11_stepTold_77 (by decide) ft_45075 fk_45075 hT
theorem s104_80 (hT : gT h o = some (8, 12)) : aW d 104 80 L (.ref o :: S) h Q = (isRf (gR h o 7) = true ∧ aW d 104 83 L (gR h o 7 :: S) h Q) := ax_geta mt104 dX11_stepTold_80 (by decide) ft_45243 fk_45243 hT
theorem s104_83 : aW d 104 83 [l0, .int a, l2] S h Q = aW d 104 84 [l0, .int a, l2] (.int a :: S) h Q := ax_iload_n mt104 dX11_stepTold_83 rfl
theorem s104_84 : aW d 104 84 L (.int a :: .ref o :: S) h Q = (inb a (aI h o) ∧ aW d 104 85 L (.int (gI h o a.toNatClampNeg) :: S) h Q) := ax_iald mt104 dX11_stepTold_84
theorem s104_85 : aW d 104 85 L [.int a] h Q = Q (some (.int a)) h := ax_reti mt104 dX11_stepTold_85 rfl
theorem s104_149 : aW d 104 149 [.ref o, l1, l2] S h Q = aW d 104 150 [.ref o, l1, l2] (.ref o :: S) h Q := ax_aload_n mt104 dX11_stepTold_149 rfl
theorem s104_150 (hT : gT h o = some (13, 14)) : aW d 104 150 L (.ref o :: S) h Q = (isRf (gR h o 1) = true ∧ aW d 104 153 L (gR h o 1 :: S) h Q) := ax_geta mt104 dX11_stepTold_150 (by decide) ft_45075 fk_45075 hT
theorem s104_153 (hT : gT h o = some (8, 12)) : aW d 104 153 L (.ref o :: S) h Q = (isRf (gR h o 11) = true ∧ aW d 104 156 L (gR h o 11 :: S) h Q) := ax_geta mt104 dX11_stepTold_153 (by decide) ft_45258 fk_45258 hT
theorem s104_156 : aW d 104 156 [l0, .int a, l2] S h Q = aW d 104 157 [l0, .int a, l2] (.int a :: S) h Q := ax_iload_n mt104 dX11_stepTold_156 rfl
theorem s104_157 : aW d 104 157 L S h Q = aW d 104 158 L (.int (nI 4) :: S) h Q := ax_iconst mt104 dX11_stepTold_157 ic_4
theorem s104_158 : aW d 104 158 L (.int b :: .int a :: S) h Q = aW d 104 159 L (.int (a * b) :: S) h Q := ax_imul mt104 dX11_stepTold_158
theorem s104_159 : aW d 104 159 [l0, l1, .int a] S h Q = aW d 104 160 [l0, l1, .int a] (.int a :: S) h Q := ax_iload_n mt104 dX11_stepTold_159 rfl
theorem s104_160 : aW d 104 160 L (.int b :: .int a :: S) h Q = aW d 104 161 L (.int (a + b) :: S) h Q := ax_iadd mt104 dX11_stepTold_160
theorem s104_161 : aW d 104 161 L S h Q = aW d 104 163 L (.int (nI 6) :: S) h Q := ax_bipush mt104 dX11_stepTold_161 bp_6
theorem s104_163 : aW d 104 163 L (.int b :: .int a :: S) h Q = aW d 104 164 L (.int (a - b) :: S) h Q := ax_isub mt104 dX11_stepTold_163
theorem s104_164 : aW d 104 164 L (.int a :: .ref o :: S) h Q = (inb a (aI h o) ∧ aW d 104 165 L (.int (gI h o a.toNatClampNeg) :: S) h Q) := ax_iald mt104 dX11_stepTold_164
theorem s104_165 : aW d 104 165 L [.int a] h Q = Q (some (.int a)) h := ax_reti mt104 dX11_stepTold_165 rfl
theorem s104_34 : aW d 104 34 L S h Q = aW d 104 36 L (.int ((-7)) :: S) h Q := ax_bipush mt104 dX11_stepTold_34 bp_m7
theorem s104_36 : aW d 104 36 L [.int a] h Q = Q (some (.int a)) h := ax_reti mt104 dX11_stepTold_36 rfl
-- method 105: BufferRoom.leastPeak(I)I
theorem dX11_leastPeak_0 : decode cX11_leastPeak 0 = .ok (.iload_n 1, 1) := by decide +kernel
theorem dX11_leastPeak_1 : decode cX11_leastPeak 1 = .ok (.bipush (-2), 2) := by decide +kernel
theorem dX11_leastPeak_3 : decode cX11_leastPeak 3 = .ok (.if_icmp .lt 14, 3) := by decide +kernel
theorem dX11_leastPeak_6 : decode cX11_leastPeak 6 = .ok (.iload_n 1, 1) := by decide +kernel
theorem dX11_leastPeak_7 : decode cX11_leastPeak 7 = .ok (.aload_n 0, 1) := by decide +kernel
theorem dX11_leastPeak_8 : decode cX11_leastPeak 8 = .ok (.getfield 19, 3) := by decide +kernel
theorem dX11_leastPeak_11 : decode cX11_leastPeak 11 = .ok (.getfield 103, 3) := by decide +kernel
theorem dX11_leastPeak_14 : decode cX11_leastPeak 14 = .ok (.if_icmp .lt 6, 3) := by decide +kernel
theorem dX11_leastPeak_17 : decode cX11_leastPeak 17 = .ok (.bipush (-5), 2) := by decide +kernel
theorem dX11_leastPeak_19 : decode cX11_leastPeak 19 = .ok (.ireturn, 1) := by decide +kernel
theorem dX11_leastPeak_20 : decode cX11_leastPeak 20 = .ok (.aload_n 0, 1) := by decide +kernel
theorem dX11_leastPeak_21 : decode cX11_leastPeak 21 = .ok (.getfield 32, 3) := by decide +kernel
theorem dX11_leastPeak_24 : decode cX11_leastPeak 24 = .ok (.getfield 146, 3) := by decide +kernel
theorem dX11_leastPeak_27 : decode cX11_leastPeak 27 = .ok (.ifCond .ne 6, 3) := by decide +kernel
theorem dX11_leastPeak_30 : decode cX11_leastPeak 30 = .ok (.bipush (-3), 2) := by decide +kernel
theorem dX11_leastPeak_32 : decode cX11_leastPeak 32 = .ok (.ireturn, 1) := by decide +kernel
theorem dX11_leastPeak_33 : decode cX11_leastPeak 33 = .ok (.aload_n 0, 1) := by decide +kernel
theorem dX11_leastPeak_34 : decode cX11_leastPeak 34 = .ok (.getfield 39, 3) := by decide +kernel
theorem dX11_leastPeak_37 : decode cX11_leastPeak 37 = .ok (.aload_n 0, 1) := by decide +kernel
theorem dX11_leastPeak_38 : decode cX11_leastPeak 38 = .ok (.getfield 32, 3) := by decide +kernel
theorem dX11_leastPeak_41 : decode cX11_leastPeak 41 = .ok (.getfield 160, 3) := by decide +kernel
theorem dX11_leastPeak_44 : decode cX11_leastPeak 44 = .ok (.invokevirtual 205, 3) := by decide +kernel
theorem dX11_leastPeak_47 : decode cX11_leastPeak 47 = .ok (.iload_n 1, 1) := by decide +kernel
theorem dX11_leastPeak_48 : decode cX11_leastPeak 48 = .ok (.lookupswitch 46 #[(-2, 28), (-1, 36)], 28) := by decide +kernel
theorem dX11_leastPeak_76 : decode cX11_leastPeak 76 = .ok (.aload_n 0, 1) := by decide +kernel
theorem dX11_leastPeak_77 : decode cX11_leastPeak 77 = .ok (.getfield 39, 3) := by decide +kernel
theorem dX11_leastPeak_80 : decode cX11_leastPeak 80 = .ok (.getfield 209, 3) := by decide +kernel
theorem dX11_leastPeak_83 : decode cX11_leastPeak 83 = .ok (.ireturn, 1) := by decide +kernel
theorem dX11_leastPeak_84 : decode cX11_leastPeak 84 = .ok (.aload_n 0, 1) := by decide +kernel
theorem dX11_leastPeak_85 : decode cX11_leastPeak 85 = .ok (.getfield 39, 3) := by decide +kernel
theorem dX11_leastPeak_88 : decode cX11_leastPeak 88 = .ok (.getfield 212, 3) := by decide +kernel
theorem dX11_leastPeak_91 : decode cX11_leastPeak 91 = .ok (.iconst 0, 1) := by decide +kernel
theorem dX11_leastPeak_92 : decode cX11_leastPeak 92 = .ok (.iaload, 1) := by decide +kernel
theorem dX11_leastPeak_93 : decode cX11_leastPeak 93 = .ok (.ireturn, 1) := by decide +kernel
theorem dX11_leastPeak_94 : decode cX11_leastPeak 94 = .ok (.aload_n 0, 1) := by decide +kernel
theorem dX11_leastPeak_95 : decode cX11_leastPeak 95 = .ok (.getfield 39, 3) := by decide +kernel
theorem dX11_leastPeak_98 : decode cX11_leastPeak 98 = .ok (.getfield 215, 3) := by decide +kernel
theorem dX11_leastPeak_101 : decode cX11_leastPeak 101 = .ok (.iload_n 1, 1) := by decide +kernel
theorem dX11_leastPeak_102 : decode cX11_leastPeak 102 = .ok (.iaload, 1) := by decide +kernel
theorem dX11_leastPeak_103 : decode cX11_leastPeak 103 = .ok (.ireturn, 1) := by decide +kernel
theorem s105_0 : aW d 105 0 [l0, .int a] S h Q = aW d 105 1 [l0, .int a] (.int a :: S) h Q := ax_iload_n mt105 dX11_leastPeak_0 rfl
theorem s105_1 : aW d 105 1 L S h Q = aW d 105 3 L (.int ((-2)) :: S) h Q := ax_bipush mt105 dX11_leastPeak_1 bp_m2
theorem s105_3 : aW d 105 3 L (.int b :: .int a :: S) h Q = (if a < b then aW d 105 17 L S h Q else aW d 105 6 L S h Q) := ax_icmp_lt mt105 dX11_leastPeak_3 (by decide)
theorem s105_6 : aW d 105 6 [l0, .int a] S h Q = aW d 105 7 [l0, .int a] (.int a :: S) h Q := ax_iload_n mt105 dX11_leastPeak_6 rfl
theorem s105_7 : aW d 105 7 [.ref o, l1] S h Q = aW d 105 8 [.ref o, l1] (.ref o :: S) h Q := ax_aload_n mt105 dX11_leastPeak_7 rfl
theorem s105_8 (hT : gT h o = some (13, 14)) : aW d 105 8 L (.ref o :: S) h Q = (isRf (gR h o 1) = true ∧ aW d 105 11 L (gR h o 1 :: S) h Q) := ax_geta mt105 dX11_leastPeak_8 (by decide) ft_45075 fk_45075 hT
theorem s105_11 (hT : gT h o = some (8, 12)) : aW d 105 11 L (.ref o :: S) h Q = aW d 105 14 L (.int (gI h o 6) :: S) h Q := ax_geti mt105 dX11_leastPeak_11 (by decide) ft_45159 fk_45159 hT
theorem s105_14 : aW d 105 14 L (.int b :: .int a :: S) h Q = (if a < b then aW d 105 20 L S h Q else aW d 105 17 L S h Q) := ax_icmp_lt mt105 dX11_leastPeak_14 (by decide)
theorem s105_20 : aW d 105 20 [.ref o, l1] S h Q = aW d 105 21 [.ref o, l1] (.ref o :: S) h Q := ax_aload_n mt105 dX11_leastPeak_20 rfl
theorem s105_21 (hT : gT h o = some (13, 14)) : aW d 105 21 L (.ref o :: S) h Q = (isRf (gR h o 3) = true ∧ aW d 105 24 L (gR h o 3 :: S) h Q) := ax_geta mt105 dX11_leastPeak_21 (by decide) ft_45088 fk_45088 hT
theorem s105_24 (hT : gT h o = some (12, 9)) : aW d 105 24 L (.ref o :: S) h Q = aW d 105 27 L (.int (gI h o 3) :: S) h Q := ax_geti mt105 dX11_leastPeak_24 (by decide) ft_45202 fk_45202 hT
theorem s105_27 : aW d 105 27 L (.int a :: S) h Q = (if a = 0 then aW d 105 30 L S h Q else aW d 105 33 L S h Q) := ax_if_ne mt105 dX11_leastPeak_27 (by decide)
theorem s105_30 : aW d 105 30 L S h Q = aW d 105 32 L (.int ((-3)) :: S) h Q := ax_bipush mt105 dX11_leastPeak_30 bp_m3
theorem s105_32 : aW d 105 32 L [.int a] h Q = Q (some (.int a)) h := ax_reti mt105 dX11_leastPeak_32 rfl
theorem s105_33 : aW d 105 33 [.ref o, l1] S h Q = aW d 105 34 [.ref o, l1] (.ref o :: S) h Q := ax_aload_n mt105 dX11_leastPeak_33 rfl
theorem s105_34 (hT : gT h o = some (13, 14)) : aW d 105 34 L (.ref o :: S) h Q = (isRf (gR h o 4) = true ∧ aW d 105 37 L (gR h o 4 :: S) h Q) := ax_geta mt105 dX11_leastPeak_34 (by decide) ft_45095 fk_45095 hT
theorem s105_37 : aW d 105 37 [.ref o, l1] S h Q = aW d 105 38 [.ref o, l1] (.ref o :: S) h Q := ax_aload_n mt105 dX11_leastPeak_37 rfl
theorem s105_38 (hT : gT h o = some (13, 14)) : aW d 105 38 L (.ref o :: S) h Q = (isRf (gR h o 3) = true ∧ aW d 105 41 L (gR h o 3 :: S) h Q) := ax_geta mt105 dX11_leastPeak_38 (by decide) ft_45088 fk_45088 hT
theorem s105_41 (hT : gT h o = some (12, 9)) : aW d 105 41 L (.ref o :: S) h Q = (isRf (gR h o 0) = true ∧ aW d 105 44 L (gR h o 0 :: S) h Q) := ax_geta mt105 dX11_leastPeak_41 (by decide) ft_45216 fk_45216 hT
theorem s105_44 (hT : gT h o = some (6, 4)) : aW (d + 1) 105 44 L (.ref p0 :: .ref o :: []) h Q = aM d 32 (.ref o :: [.ref p0]) h (fun v h1 => aW (d + 1) 105 47 L (ab_ps v []) h1 Q) := ax_invv mt105 dX11_leastPeak_44 (by decide) ct_45261 (.inl rfl) mt32 ⟨⟨Nat.le_of_ble_eq_true rfl, Nat.le_of_ble_eq_true rfl, Nat.le_of_ble_eq_true rfl⟩, rfl, rfl, rfl⟩ hT
theorem s105_47 : aW d 105 47 [l0, .int a] S h Q = aW d 105 48 [l0, .int a] (.int a :: S) h Q := ax_iload_n mt105 dX11_leastPeak_47 rfl
theorem s105_48 : aW d 105 48 L (.int a :: S) h Q = (if a = (-2) then aW d 105 76 L S h Q else (if a = (-1) then aW d 105 84 L S h Q else aW d 105 94 L S h Q)) := by
  by_cases e0 : a = (-2)
  · rw [if_pos e0]
    subst e0
    exact ax_look (off := 28) mt105 dX11_leastPeak_48 (by decide +kernel) (by decide +kernel) (by decide)
  rw [if_neg e0]
  by_cases e1 : a = (-1)
  · rw [if_pos e1]
    subst e1
    exact ax_look (off := 36) mt105 dX11_leastPeak_48 (by decide +kernel) (by decide +kernel) (by decide)
  rw [if_neg e1]
  refine ax_look (off := 46) mt105 dX11_leastPeak_48 (by decide +kernel) ?_ (by decide)
  show Op.lookupswitch.offset [(-2, 28), (-1, 36)] 46 a.toInt = 46
  rw [lv_osw e0 (show ((-2) : Int32).toInt = -2 by decide +kernel), lv_osw e1 (show ((-1) : Int32).toInt = -1 by decide +kernel)]
  rfl
theorem s105_84 : aW d 105 84 [.ref o, l1] S h Q = aW d 105 85 [.ref o, l1] (.ref o :: S) h Q := ax_aload_n mt105 dX11_leastPeak_84 rfl
theorem s105_85 (hT : gT h o = some (13, 14)) : aW d 105 85 L (.ref o :: S) h Q = (isRf (gR h o 4) = true ∧ aW d 105 88 L (gR h o 4 :: S) h Q) := ax_geta mt105 dX11_leastPeak_85 (by decide) ft_45095 fk_45095 hT
theorem s105_88 (hT : gT h o = some (6, 4)) : aW d 105 88 L (.ref o :: S) h Q = (isRf (gR h o 2) = true ∧ aW d 105 91 L (gR h o 2 :: S) h Q) := ax_geta mt105 dX11_leastPeak_88 (by decide) ft_45268 fk_45268 hT
theorem s105_91 : aW d 105 91 L S h Q = aW d 105 92 L (.int (nI 0) :: S) h Q := ax_iconst mt105 dX11_leastPeak_91 ic_0
theorem s105_92 : aW d 105 92 L (.int a :: .ref o :: S) h Q = (inb a (aI h o) ∧ aW d 105 93 L (.int (gI h o a.toNatClampNeg) :: S) h Q) := ax_iald mt105 dX11_leastPeak_92
theorem s105_93 : aW d 105 93 L [.int a] h Q = Q (some (.int a)) h := ax_reti mt105 dX11_leastPeak_93 rfl
theorem s105_76 : aW d 105 76 [.ref o, l1] S h Q = aW d 105 77 [.ref o, l1] (.ref o :: S) h Q := ax_aload_n mt105 dX11_leastPeak_76 rfl
theorem s105_77 (hT : gT h o = some (13, 14)) : aW d 105 77 L (.ref o :: S) h Q = (isRf (gR h o 4) = true ∧ aW d 105 80 L (gR h o 4 :: S) h Q) := ax_geta mt105 dX11_leastPeak_77 (by decide) ft_45095 fk_45095 hT
theorem s105_80 (hT : gT h o = some (6, 4)) : aW d 105 80 L (.ref o :: S) h Q = aW d 105 83 L (.int (gI h o 1) :: S) h Q := ax_geti mt105 dX11_leastPeak_80 (by decide) ft_45265 fk_45265 hT
theorem s105_83 : aW d 105 83 L [.int a] h Q = Q (some (.int a)) h := ax_reti mt105 dX11_leastPeak_83 rfl
theorem s105_94 : aW d 105 94 [.ref o, l1] S h Q = aW d 105 95 [.ref o, l1] (.ref o :: S) h Q := ax_aload_n mt105 dX11_leastPeak_94 rfl
theorem s105_95 (hT : gT h o = some (13, 14)) : aW d 105 95 L (.ref o :: S) h Q = (isRf (gR h o 4) = true ∧ aW d 105 98 L (gR h o 4 :: S) h Q) := ax_geta mt105 dX11_leastPeak_95 (by decide) ft_45095 fk_45095 hT
theorem s105_98 (hT : gT h o = some (6, 4)) : aW d 105 98 L (.ref o :: S) h Q = (isRf (gR h o 3) = true ∧ aW d 105 101 L (gR h o 3 :: S) h Q) := ax_geta mt105 dX11_leastPeak_98 (by decide) ft_45271 fk_45271 hT
theorem s105_101 : aW d 105 101 [l0, .int a] S h Q = aW d 105 102 [l0, .int a] (.int a :: S) h Q := ax_iload_n mt105 dX11_leastPeak_101 rfl
theorem s105_102 : aW d 105 102 L (.int a :: .ref o :: S) h Q = (inb a (aI h o) ∧ aW d 105 103 L (.int (gI h o a.toNatClampNeg) :: S) h Q) := ax_iald mt105 dX11_leastPeak_102
theorem s105_103 : aW d 105 103 L [.int a] h Q = Q (some (.int a)) h := ax_reti mt105 dX11_leastPeak_103 rfl
theorem s105_17 : aW d 105 17 L S h Q = aW d 105 19 L (.int ((-5)) :: S) h Q := ax_bipush mt105 dX11_leastPeak_17 bp_m5
theorem s105_19 : aW d 105 19 L [.int a] h Q = Q (some (.int a)) h := ax_reti mt105 dX11_leastPeak_19 rfl
-- method 106: BufferRoom.height(I)I
theorem dX11_height_0 : decode cX11_height 0 = .ok (.aload_n 0, 1) := by decide +kernel
theorem dX11_height_1 : decode cX11_height 1 = .ok (.iload_n 1, 1) := by decide +kernel
theorem dX11_height_2 : decode cX11_height 2 = .ok (.invokevirtual 216, 3) := by decide +kernel
theorem dX11_height_5 : decode cX11_height 5 = .ok (.istore_n 2, 1) := by decide +kernel
theorem dX11_height_6 : decode cX11_height 6 = .ok (.iload_n 2, 1) := by decide +kernel
theorem dX11_height_7 : decode cX11_height 7 = .ok (.ifCond .ge 5, 3) := by decide +kernel
theorem dX11_height_10 : decode cX11_height 10 = .ok (.iload_n 2, 1) := by decide +kernel
theorem dX11_height_11 : decode cX11_height 11 = .ok (.ireturn, 1) := by decide +kernel
theorem dX11_height_12 : decode cX11_height 12 = .ok (.aload_n 0, 1) := by decide +kernel
theorem dX11_height_13 : decode cX11_height 13 = .ok (.getfield 32, 3) := by decide +kernel
theorem dX11_height_16 : decode cX11_height 16 = .ok (.getfield 146, 3) := by decide +kernel
theorem dX11_height_19 : decode cX11_height 19 = .ok (.ifCond .ne 6, 3) := by decide +kernel
theorem dX11_height_22 : decode cX11_height 22 = .ok (.bipush (-3), 2) := by decide +kernel
theorem dX11_height_24 : decode cX11_height 24 = .ok (.ireturn, 1) := by decide +kernel
theorem dX11_height_25 : decode cX11_height 25 = .ok (.aload_n 0, 1) := by decide +kernel
theorem dX11_height_26 : decode cX11_height 26 = .ok (.getfield 46, 3) := by decide +kernel
theorem dX11_height_29 : decode cX11_height 29 = .ok (.aload_n 0, 1) := by decide +kernel
theorem dX11_height_30 : decode cX11_height 30 = .ok (.getfield 32, 3) := by decide +kernel
theorem dX11_height_33 : decode cX11_height 33 = .ok (.aload_n 0, 1) := by decide +kernel
theorem dX11_height_34 : decode cX11_height 34 = .ok (.getfield 80, 3) := by decide +kernel
theorem dX11_height_37 : decode cX11_height 37 = .ok (.iload_n 1, 1) := by decide +kernel
theorem dX11_height_38 : decode cX11_height 38 = .ok (.aaload, 1) := by decide +kernel
theorem dX11_height_39 : decode cX11_height 39 = .ok (.invokevirtual 219, 3) := by decide +kernel
theorem dX11_height_42 : decode cX11_height 42 = .ok (.ireturn, 1) := by decide +kernel
theorem s106_0 : aW d 106 0 [.ref o, l1, l2] S h Q = aW d 106 1 [.ref o, l1, l2] (.ref o :: S) h Q := ax_aload_n mt106 dX11_height_0 rfl
theorem s106_1 : aW d 106 1 [l0, .int a, l2] S h Q = aW d 106 2 [l0, .int a, l2] (.int a :: S) h Q := ax_iload_n mt106 dX11_height_1 rfl
theorem s106_2 (hT : gT h o = some (13, 14)) : aW (d + 1) 106 2 L (.int x0 :: .ref o :: []) h Q = aM d 136 (.ref o :: [.int x0]) h (fun v h1 => aW (d + 1) 106 5 L (ab_ps v []) h1 Q) := ax_invv mt106 dX11_height_2 (by decide) ct_45272 (.inl rfl) mt136 ⟨⟨Nat.le_of_ble_eq_true rfl, Nat.le_of_ble_eq_true rfl, Nat.le_of_ble_eq_true rfl⟩, rfl, rfl, rfl⟩ hT
theorem s106_5 : aW d 106 5 [l0, l1, l2] (.int a :: S) h Q = aW d 106 6 [l0, l1, .int a] S h Q := ax_istore_n mt106 dX11_height_5 (Nat.le_of_ble_eq_true rfl) rfl
theorem s106_6 : aW d 106 6 [l0, l1, .int a] S h Q = aW d 106 7 [l0, l1, .int a] (.int a :: S) h Q := ax_iload_n mt106 dX11_height_6 rfl
theorem s106_7 : aW d 106 7 L (.int a :: S) h Q = (if a < 0 then aW d 106 10 L S h Q else aW d 106 12 L S h Q) := ax_if_ge mt106 dX11_height_7 (by decide)
theorem s106_10 : aW d 106 10 [l0, l1, .int a] S h Q = aW d 106 11 [l0, l1, .int a] (.int a :: S) h Q := ax_iload_n mt106 dX11_height_10 rfl
theorem s106_11 : aW d 106 11 L [.int a] h Q = Q (some (.int a)) h := ax_reti mt106 dX11_height_11 rfl
theorem s106_12 : aW d 106 12 [.ref o, l1, l2] S h Q = aW d 106 13 [.ref o, l1, l2] (.ref o :: S) h Q := ax_aload_n mt106 dX11_height_12 rfl
theorem s106_13 (hT : gT h o = some (13, 14)) : aW d 106 13 L (.ref o :: S) h Q = (isRf (gR h o 3) = true ∧ aW d 106 16 L (gR h o 3 :: S) h Q) := ax_geta mt106 dX11_height_13 (by decide) ft_45088 fk_45088 hT
theorem s106_16 (hT : gT h o = some (12, 9)) : aW d 106 16 L (.ref o :: S) h Q = aW d 106 19 L (.int (gI h o 3) :: S) h Q := ax_geti mt106 dX11_height_16 (by decide) ft_45202 fk_45202 hT
theorem s106_19 : aW d 106 19 L (.int a :: S) h Q = (if a = 0 then aW d 106 22 L S h Q else aW d 106 25 L S h Q) := ax_if_ne mt106 dX11_height_19 (by decide)
theorem s106_22 : aW d 106 22 L S h Q = aW d 106 24 L (.int ((-3)) :: S) h Q := ax_bipush mt106 dX11_height_22 bp_m3
theorem s106_24 : aW d 106 24 L [.int a] h Q = Q (some (.int a)) h := ax_reti mt106 dX11_height_24 rfl
theorem s106_25 : aW d 106 25 [.ref o, l1, l2] S h Q = aW d 106 26 [.ref o, l1, l2] (.ref o :: S) h Q := ax_aload_n mt106 dX11_height_25 rfl
theorem s106_26 (hT : gT h o = some (13, 14)) : aW d 106 26 L (.ref o :: S) h Q = (isRf (gR h o 5) = true ∧ aW d 106 29 L (gR h o 5 :: S) h Q) := ax_geta mt106 dX11_height_26 (by decide) ft_45102 fk_45102 hT
theorem s106_29 : aW d 106 29 [.ref o, l1, l2] S h Q = aW d 106 30 [.ref o, l1, l2] (.ref o :: S) h Q := ax_aload_n mt106 dX11_height_29 rfl
theorem s106_30 (hT : gT h o = some (13, 14)) : aW d 106 30 L (.ref o :: S) h Q = (isRf (gR h o 3) = true ∧ aW d 106 33 L (gR h o 3 :: S) h Q) := ax_geta mt106 dX11_height_30 (by decide) ft_45088 fk_45088 hT
theorem s106_33 : aW d 106 33 [.ref o, l1, l2] S h Q = aW d 106 34 [.ref o, l1, l2] (.ref o :: S) h Q := ax_aload_n mt106 dX11_height_33 rfl
theorem s106_34 (hT : gT h o = some (13, 14)) : aW d 106 34 L (.ref o :: S) h Q = (isRf (gR h o 12) = true ∧ aW d 106 37 L (gR h o 12 :: S) h Q) := ax_geta mt106 dX11_height_34 (by decide) ft_45136 fk_45136 hT
theorem s106_37 : aW d 106 37 [l0, .int a, l2] S h Q = aW d 106 38 [l0, .int a, l2] (.int a :: S) h Q := ax_iload_n mt106 dX11_height_37 rfl
theorem s106_38 : aW d 106 38 L (.int a :: .ref o :: S) h Q = ((inb a (aQ h o) ∧ isRf (gR h o a.toNatClampNeg) = true) ∧ aW d 106 39 L (gR h o a.toNatClampNeg :: S) h Q) := ax_aald mt106 dX11_height_38
theorem s106_39 (hT : gT h o = some (4, 6)) : aW (d + 1) 106 39 L (.ref p1 :: .ref p0 :: .ref o :: []) h Q = aM d 14 (.ref o :: [.ref p0, .ref p1]) h (fun v h1 => aW (d + 1) 106 42 L (ab_ps v []) h1 Q) := ax_invv mt106 dX11_height_39 (by decide) ct_45275 (.inl rfl) mt14 ⟨⟨Nat.le_of_ble_eq_true rfl, Nat.le_of_ble_eq_true rfl, Nat.le_of_ble_eq_true rfl⟩, rfl, rfl, rfl⟩ hT
theorem s106_42 : aW d 106 42 L [.int a] h Q = Q (some (.int a)) h := ax_reti mt106 dX11_height_42 rfl
-- method 107: BufferRoom.heightAt(I)I
theorem dX11_heightAt_0 : decode cX11_heightAt 0 = .ok (.iload_n 1, 1) := by decide +kernel
theorem dX11_heightAt_1 : decode cX11_heightAt 1 = .ok (.ifCond .lt 14, 3) := by decide +kernel
theorem dX11_heightAt_4 : decode cX11_heightAt 4 = .ok (.iload_n 1, 1) := by decide +kernel
theorem dX11_heightAt_5 : decode cX11_heightAt 5 = .ok (.aload_n 0, 1) := by decide +kernel
theorem dX11_heightAt_6 : decode cX11_heightAt 6 = .ok (.getfield 46, 3) := by decide +kernel
theorem dX11_heightAt_9 : decode cX11_heightAt 9 = .ok (.getfield 222, 3) := by decide +kernel
theorem dX11_heightAt_12 : decode cX11_heightAt 12 = .ok (.if_icmp .lt 8, 3) := by decide +kernel
theorem dX11_heightAt_15 : decode cX11_heightAt 15 = .ok (.bipush (-5), 2) := by decide +kernel
theorem dX11_heightAt_17 : decode cX11_heightAt 17 = .ok (.goto 12, 3) := by decide +kernel
theorem dX11_heightAt_20 : decode cX11_heightAt 20 = .ok (.aload_n 0, 1) := by decide +kernel
theorem dX11_heightAt_21 : decode cX11_heightAt 21 = .ok (.getfield 46, 3) := by decide +kernel
theorem dX11_heightAt_24 : decode cX11_heightAt 24 = .ok (.getfield 225, 3) := by decide +kernel
theorem dX11_heightAt_27 : decode cX11_heightAt 27 = .ok (.iload_n 1, 1) := by decide +kernel
theorem dX11_heightAt_28 : decode cX11_heightAt 28 = .ok (.iaload, 1) := by decide +kernel
theorem dX11_heightAt_29 : decode cX11_heightAt 29 = .ok (.ireturn, 1) := by decide +kernel
theorem s107_0 : aW d 107 0 [l0, .int a] S h Q = aW d 107 1 [l0, .int a] (.int a :: S) h Q := ax_iload_n mt107 dX11_heightAt_0 rfl
theorem s107_1 : aW d 107 1 L (.int a :: S) h Q = (if a < 0 then aW d 107 15 L S h Q else aW d 107 4 L S h Q) := ax_if_lt mt107 dX11_heightAt_1 (by decide)
theorem s107_4 : aW d 107 4 [l0, .int a] S h Q = aW d 107 5 [l0, .int a] (.int a :: S) h Q := ax_iload_n mt107 dX11_heightAt_4 rfl
theorem s107_5 : aW d 107 5 [.ref o, l1] S h Q = aW d 107 6 [.ref o, l1] (.ref o :: S) h Q := ax_aload_n mt107 dX11_heightAt_5 rfl
theorem s107_6 (hT : gT h o = some (13, 14)) : aW d 107 6 L (.ref o :: S) h Q = (isRf (gR h o 5) = true ∧ aW d 107 9 L (gR h o 5 :: S) h Q) := ax_geta mt107 dX11_heightAt_6 (by decide) ft_45102 fk_45102 hT
theorem s107_9 (hT : gT h o = some (4, 6)) : aW d 107 9 L (.ref o :: S) h Q = aW d 107 12 L (.int (gI h o 4) :: S) h Q := ax_geti mt107 dX11_heightAt_9 (by decide) ft_45278 fk_45278 hT
theorem s107_12 : aW d 107 12 L (.int b :: .int a :: S) h Q = (if a < b then aW d 107 20 L S h Q else aW d 107 15 L S h Q) := ax_icmp_lt mt107 dX11_heightAt_12 (by decide)
theorem s107_20 : aW d 107 20 [.ref o, l1] S h Q = aW d 107 21 [.ref o, l1] (.ref o :: S) h Q := ax_aload_n mt107 dX11_heightAt_20 rfl
theorem s107_21 (hT : gT h o = some (13, 14)) : aW d 107 21 L (.ref o :: S) h Q = (isRf (gR h o 5) = true ∧ aW d 107 24 L (gR h o 5 :: S) h Q) := ax_geta mt107 dX11_heightAt_21 (by decide) ft_45102 fk_45102 hT
theorem s107_24 (hT : gT h o = some (4, 6)) : aW d 107 24 L (.ref o :: S) h Q = (isRf (gR h o 5) = true ∧ aW d 107 27 L (gR h o 5 :: S) h Q) := ax_geta mt107 dX11_heightAt_24 (by decide) ft_45281 fk_45281 hT
theorem s107_27 : aW d 107 27 [l0, .int a] S h Q = aW d 107 28 [l0, .int a] (.int a :: S) h Q := ax_iload_n mt107 dX11_heightAt_27 rfl
theorem s107_28 : aW d 107 28 L (.int a :: .ref o :: S) h Q = (inb a (aI h o) ∧ aW d 107 29 L (.int (gI h o a.toNatClampNeg) :: S) h Q) := ax_iald mt107 dX11_heightAt_28
theorem s107_29 : aW d 107 29 L [.int a] h Q = Q (some (.int a)) h := ax_reti mt107 dX11_heightAt_29 rfl
theorem s107_15 : aW d 107 15 L S h Q = aW d 107 17 L (.int ((-5)) :: S) h Q := ax_bipush mt107 dX11_heightAt_15 bp_m5
theorem s107_17 : aW d 107 17 L S h Q = aW d 107 29 L S h Q := ax_goto mt107 dX11_heightAt_17 (by decide)
-- method 108: BufferRoom.lay(II)I
theorem dX11_lay_0 : decode cX11_lay 0 = .ok (.aload_n 0, 1) := by decide +kernel
theorem dX11_lay_1 : decode cX11_lay 1 = .ok (.getfield 19, 3) := by decide +kernel
theorem dX11_lay_4 : decode cX11_lay 4 = .ok (.iload_n 1, 1) := by decide +kernel
theorem dX11_lay_5 : decode cX11_lay 5 = .ok (.invokevirtual 157, 3) := by decide +kernel
theorem dX11_lay_8 : decode cX11_lay 8 = .ok (.ifCond .ne 6, 3) := by decide +kernel
theorem dX11_lay_11 : decode cX11_lay 11 = .ok (.bipush (-5), 2) := by decide +kernel
theorem dX11_lay_13 : decode cX11_lay 13 = .ok (.ireturn, 1) := by decide +kernel
theorem dX11_lay_14 : decode cX11_lay 14 = .ok (.iload_n 2, 1) := by decide +kernel
theorem dX11_lay_15 : decode cX11_lay 15 = .ok (.invokestatic 228, 3) := by decide +kernel
theorem dX11_lay_18 : decode cX11_lay 18 = .ok (.ifCond .ne 6, 3) := by decide +kernel
theorem dX11_lay_21 : decode cX11_lay 21 = .ok (.bipush (-2), 2) := by decide +kernel
theorem dX11_lay_23 : decode cX11_lay 23 = .ok (.ireturn, 1) := by decide +kernel
theorem dX11_lay_24 : decode cX11_lay 24 = .ok (.aload_n 0, 1) := by decide +kernel
theorem dX11_lay_25 : decode cX11_lay 25 = .ok (.getfield 50, 3) := by decide +kernel
theorem dX11_lay_28 : decode cX11_lay 28 = .ok (.iload_n 1, 1) := by decide +kernel
theorem dX11_lay_29 : decode cX11_lay 29 = .ok (.iaload, 1) := by decide +kernel
theorem dX11_lay_30 : decode cX11_lay 30 = .ok (.istore_n 3, 1) := by decide +kernel
theorem dX11_lay_31 : decode cX11_lay 31 = .ok (.aload_n 0, 1) := by decide +kernel
theorem dX11_lay_32 : decode cX11_lay 32 = .ok (.getfield 50, 3) := by decide +kernel
theorem dX11_lay_35 : decode cX11_lay 35 = .ok (.iload_n 1, 1) := by decide +kernel
theorem dX11_lay_36 : decode cX11_lay 36 = .ok (.iload_n 2, 1) := by decide +kernel
theorem dX11_lay_37 : decode cX11_lay 37 = .ok (.iastore, 1) := by decide +kernel
theorem dX11_lay_38 : decode cX11_lay 38 = .ok (.iload_n 3, 1) := by decide +kernel
theorem dX11_lay_39 : decode cX11_lay 39 = .ok (.ireturn, 1) := by decide +kernel
theorem s108_0 : aW d 108 0 [.ref o, l1, l2, l3] S h Q = aW d 108 1 [.ref o, l1, l2, l3] (.ref o :: S) h Q := ax_aload_n mt108 dX11_lay_0 rfl
theorem s108_1 (hT : gT h o = some (13, 14)) : aW d 108 1 L (.ref o :: S) h Q = (isRf (gR h o 1) = true ∧ aW d 108 4 L (gR h o 1 :: S) h Q) := ax_geta mt108 dX11_lay_1 (by decide) ft_45075 fk_45075 hT
theorem s108_4 : aW d 108 4 [l0, .int a, l2, l3] S h Q = aW d 108 5 [l0, .int a, l2, l3] (.int a :: S) h Q := ax_iload_n mt108 dX11_lay_4 rfl
theorem s108_5 (hT : gT h o = some (8, 12)) : aW (d + 1) 108 5 L (.int x0 :: .ref o :: []) h Q = aM d 44 (.ref o :: [.int x0]) h (fun v h1 => aW (d + 1) 108 8 L (ab_ps v []) h1 Q) := ax_invv mt108 dX11_lay_5 (by decide) ct_45213 (.inl rfl) mt44 ⟨⟨Nat.le_of_ble_eq_true rfl, Nat.le_of_ble_eq_true rfl, Nat.le_of_ble_eq_true rfl⟩, rfl, rfl, rfl⟩ hT
theorem s108_8 : aW d 108 8 L (.int a :: S) h Q = (if a = 0 then aW d 108 11 L S h Q else aW d 108 14 L S h Q) := ax_if_ne mt108 dX11_lay_8 (by decide)
theorem s108_11 : aW d 108 11 L S h Q = aW d 108 13 L (.int ((-5)) :: S) h Q := ax_bipush mt108 dX11_lay_11 bp_m5
theorem s108_13 : aW d 108 13 L [.int a] h Q = Q (some (.int a)) h := ax_reti mt108 dX11_lay_13 rfl
theorem s108_14 : aW d 108 14 [l0, l1, .int a, l3] S h Q = aW d 108 15 [l0, l1, .int a, l3] (.int a :: S) h Q := ax_iload_n mt108 dX11_lay_14 rfl
theorem s108_15 : aW (d + 1) 108 15 L (.int x0 :: []) h Q = aM d 131 [.int x0] h (fun v h1 => aW (d + 1) 108 18 L (ab_ps v []) h1 Q) := ax_invs mt108 dX11_lay_15 (by decide) ct_45284 (.inl rfl) mt131 ⟨⟨Nat.le_of_ble_eq_true rfl, Nat.le_of_ble_eq_true rfl, Nat.le_of_ble_eq_true rfl⟩, rfl, rfl⟩
theorem s108_18 : aW d 108 18 L (.int a :: S) h Q = (if a = 0 then aW d 108 21 L S h Q else aW d 108 24 L S h Q) := ax_if_ne mt108 dX11_lay_18 (by decide)
theorem s108_21 : aW d 108 21 L S h Q = aW d 108 23 L (.int ((-2)) :: S) h Q := ax_bipush mt108 dX11_lay_21 bp_m2
theorem s108_23 : aW d 108 23 L [.int a] h Q = Q (some (.int a)) h := ax_reti mt108 dX11_lay_23 rfl
theorem s108_24 : aW d 108 24 [.ref o, l1, l2, l3] S h Q = aW d 108 25 [.ref o, l1, l2, l3] (.ref o :: S) h Q := ax_aload_n mt108 dX11_lay_24 rfl
theorem s108_25 (hT : gT h o = some (13, 14)) : aW d 108 25 L (.ref o :: S) h Q = (isRf (gR h o 6) = true ∧ aW d 108 28 L (gR h o 6 :: S) h Q) := ax_geta mt108 dX11_lay_25 (by decide) ft_45106 fk_45106 hT
theorem s108_28 : aW d 108 28 [l0, .int a, l2, l3] S h Q = aW d 108 29 [l0, .int a, l2, l3] (.int a :: S) h Q := ax_iload_n mt108 dX11_lay_28 rfl
theorem s108_29 : aW d 108 29 L (.int a :: .ref o :: S) h Q = (inb a (aI h o) ∧ aW d 108 30 L (.int (gI h o a.toNatClampNeg) :: S) h Q) := ax_iald mt108 dX11_lay_29
theorem s108_30 : aW d 108 30 [l0, l1, l2, l3] (.int a :: S) h Q = aW d 108 31 [l0, l1, l2, .int a] S h Q := ax_istore_n mt108 dX11_lay_30 (Nat.le_of_ble_eq_true rfl) rfl
theorem s108_31 : aW d 108 31 [.ref o, l1, l2, l3] S h Q = aW d 108 32 [.ref o, l1, l2, l3] (.ref o :: S) h Q := ax_aload_n mt108 dX11_lay_31 rfl
theorem s108_32 (hT : gT h o = some (13, 14)) : aW d 108 32 L (.ref o :: S) h Q = (isRf (gR h o 6) = true ∧ aW d 108 35 L (gR h o 6 :: S) h Q) := ax_geta mt108 dX11_lay_32 (by decide) ft_45106 fk_45106 hT
theorem s108_35 : aW d 108 35 [l0, .int a, l2, l3] S h Q = aW d 108 36 [l0, .int a, l2, l3] (.int a :: S) h Q := ax_iload_n mt108 dX11_lay_35 rfl
theorem s108_36 : aW d 108 36 [l0, l1, .int a, l3] S h Q = aW d 108 37 [l0, l1, .int a, l3] (.int a :: S) h Q := ax_iload_n mt108 dX11_lay_36 rfl
theorem s108_37 : aW d 108 37 L (.int b :: .int a :: .ref o :: S) h Q = (inb a (aJ h o) ∧ aW d 108 38 L S (pI h o a.toNatClampNeg b) Q) := ax_iast mt108 dX11_lay_37
theorem s108_38 : aW d 108 38 [l0, l1, l2, .int a] S h Q = aW d 108 39 [l0, l1, l2, .int a] (.int a :: S) h Q := ax_iload_n mt108 dX11_lay_38 rfl
theorem s108_39 : aW d 108 39 L [.int a] h Q = Q (some (.int a)) h := ax_reti mt108 dX11_lay_39 rfl
-- method 109: BufferRoom.clash()I
theorem dX11_clash_0 : decode cX11_clash 0 = .ok (.aload_n 0, 1) := by decide +kernel
theorem dX11_clash_1 : decode cX11_clash 1 = .ok (.getfield 32, 3) := by decide +kernel
theorem dX11_clash_4 : decode cX11_clash 4 = .ok (.getfield 146, 3) := by decide +kernel
theorem dX11_clash_7 : decode cX11_clash 7 = .ok (.ifCond .ne 6, 3) := by decide +kernel
theorem dX11_clash_10 : decode cX11_clash 10 = .ok (.bipush (-3), 2) := by decide +kernel
theorem dX11_clash_12 : decode cX11_clash 12 = .ok (.ireturn, 1) := by decide +kernel
theorem dX11_clash_13 : decode cX11_clash 13 = .ok (.iconst 0, 1) := by decide +kernel
theorem dX11_clash_14 : decode cX11_clash 14 = .ok (.istore_n 1, 1) := by decide +kernel
theorem dX11_clash_15 : decode cX11_clash 15 = .ok (.iload_n 1, 1) := by decide +kernel
theorem dX11_clash_16 : decode cX11_clash 16 = .ok (.bipush 12, 2) := by decide +kernel
theorem dX11_clash_18 : decode cX11_clash 18 = .ok (.if_icmp .ge 53, 3) := by decide +kernel
theorem dX11_clash_21 : decode cX11_clash 21 = .ok (.iload_n 1, 1) := by decide +kernel
theorem dX11_clash_22 : decode cX11_clash 22 = .ok (.iconst 1, 1) := by decide +kernel
theorem dX11_clash_23 : decode cX11_clash 23 = .ok (.iadd, 1) := by decide +kernel
theorem dX11_clash_24 : decode cX11_clash 24 = .ok (.istore_n 2, 1) := by decide +kernel
theorem dX11_clash_25 : decode cX11_clash 25 = .ok (.iload_n 2, 1) := by decide +kernel
theorem dX11_clash_26 : decode cX11_clash 26 = .ok (.bipush 12, 2) := by decide +kernel
theorem dX11_clash_28 : decode cX11_clash 28 = .ok (.if_icmp .ge 37, 3) := by decide +kernel
theorem dX11_clash_31 : decode cX11_clash 31 = .ok (.aload_n 0, 1) := by decide +kernel
theorem dX11_clash_32 : decode cX11_clash 32 = .ok (.iload_n 1, 1) := by decide +kernel
theorem dX11_clash_33 : decode cX11_clash 33 = .ok (.iload_n 2, 1) := by decide +kernel
theorem dX11_clash_34 : decode cX11_clash 34 = .ok (.invokevirtual 231, 3) := by decide +kernel
theorem dX11_clash_37 : decode cX11_clash 37 = .ok (.ifCond .eq 22, 3) := by decide +kernel
theorem dX11_clash_40 : decode cX11_clash 40 = .ok (.aload_n 0, 1) := by decide +kernel
theorem dX11_clash_41 : decode cX11_clash 41 = .ok (.getfield 32, 3) := by decide +kernel
theorem dX11_clash_44 : decode cX11_clash 44 = .ok (.iload_n 1, 1) := by decide +kernel
theorem dX11_clash_45 : decode cX11_clash 45 = .ok (.iload_n 2, 1) := by decide +kernel
theorem dX11_clash_46 : decode cX11_clash 46 = .ok (.invokevirtual 235, 3) := by decide +kernel
theorem dX11_clash_49 : decode cX11_clash 49 = .ok (.ifCond .eq 10, 3) := by decide +kernel
theorem dX11_clash_52 : decode cX11_clash 52 = .ok (.bipush 100, 2) := by decide +kernel
theorem dX11_clash_54 : decode cX11_clash 54 = .ok (.iload_n 1, 1) := by decide +kernel
theorem dX11_clash_55 : decode cX11_clash 55 = .ok (.imul, 1) := by decide +kernel
theorem dX11_clash_56 : decode cX11_clash 56 = .ok (.iload_n 2, 1) := by decide +kernel
theorem dX11_clash_57 : decode cX11_clash 57 = .ok (.iadd, 1) := by decide +kernel
theorem dX11_clash_58 : decode cX11_clash 58 = .ok (.ireturn, 1) := by decide +kernel
theorem dX11_clash_59 : decode cX11_clash 59 = .ok (.iinc 2 1, 3) := by decide +kernel
theorem dX11_clash_62 : decode cX11_clash 62 = .ok (.goto (-37), 3) := by decide +kernel
theorem dX11_clash_65 : decode cX11_clash 65 = .ok (.iinc 1 1, 3) := by decide +kernel
theorem dX11_clash_68 : decode cX11_clash 68 = .ok (.goto (-53), 3) := by decide +kernel
theorem dX11_clash_71 : decode cX11_clash 71 = .ok (.iconst (-1), 1) := by decide +kernel
theorem dX11_clash_72 : decode cX11_clash 72 = .ok (.ireturn, 1) := by decide +kernel
theorem s109_0 : aW d 109 0 [.ref o, l1, l2] S h Q = aW d 109 1 [.ref o, l1, l2] (.ref o :: S) h Q := ax_aload_n mt109 dX11_clash_0 rfl
theorem s109_1 (hT : gT h o = some (13, 14)) : aW d 109 1 L (.ref o :: S) h Q = (isRf (gR h o 3) = true ∧ aW d 109 4 L (gR h o 3 :: S) h Q) := ax_geta mt109 dX11_clash_1 (by decide) ft_45088 fk_45088 hT
theorem s109_4 (hT : gT h o = some (12, 9)) : aW d 109 4 L (.ref o :: S) h Q = aW d 109 7 L (.int (gI h o 3) :: S) h Q := ax_geti mt109 dX11_clash_4 (by decide) ft_45202 fk_45202 hT
theorem s109_7 : aW d 109 7 L (.int a :: S) h Q = (if a = 0 then aW d 109 10 L S h Q else aW d 109 13 L S h Q) := ax_if_ne mt109 dX11_clash_7 (by decide)
theorem s109_10 : aW d 109 10 L S h Q = aW d 109 12 L (.int ((-3)) :: S) h Q := ax_bipush mt109 dX11_clash_10 bp_m3
theorem s109_12 : aW d 109 12 L [.int a] h Q = Q (some (.int a)) h := ax_reti mt109 dX11_clash_12 rfl
theorem s109_13 : aW d 109 13 L S h Q = aW d 109 14 L (.int (nI 0) :: S) h Q := ax_iconst mt109 dX11_clash_13 ic_0
theorem s109_14 : aW d 109 14 [l0, l1, l2] (.int a :: S) h Q = aW d 109 15 [l0, .int a, l2] S h Q := ax_istore_n mt109 dX11_clash_14 (Nat.le_of_ble_eq_true rfl) rfl
theorem s109_15 : aW d 109 15 [l0, .int a, l2] S h Q = aW d 109 16 [l0, .int a, l2] (.int a :: S) h Q := ax_iload_n mt109 dX11_clash_15 rfl
theorem s109_16 : aW d 109 16 L S h Q = aW d 109 18 L (.int (nI 12) :: S) h Q := ax_bipush mt109 dX11_clash_16 bp_12
theorem s109_18 : aW d 109 18 L (.int b :: .int a :: S) h Q = (if a < b then aW d 109 21 L S h Q else aW d 109 71 L S h Q) := ax_icmp_ge mt109 dX11_clash_18 (by decide)
theorem s109_21 : aW d 109 21 [l0, .int a, l2] S h Q = aW d 109 22 [l0, .int a, l2] (.int a :: S) h Q := ax_iload_n mt109 dX11_clash_21 rfl
theorem s109_22 : aW d 109 22 L S h Q = aW d 109 23 L (.int (nI 1) :: S) h Q := ax_iconst mt109 dX11_clash_22 ic_1
theorem s109_23 : aW d 109 23 L (.int b :: .int a :: S) h Q = aW d 109 24 L (.int (a + b) :: S) h Q := ax_iadd mt109 dX11_clash_23
theorem s109_24 : aW d 109 24 [l0, l1, l2] (.int a :: S) h Q = aW d 109 25 [l0, l1, .int a] S h Q := ax_istore_n mt109 dX11_clash_24 (Nat.le_of_ble_eq_true rfl) rfl
theorem s109_25 : aW d 109 25 [l0, l1, .int a] S h Q = aW d 109 26 [l0, l1, .int a] (.int a :: S) h Q := ax_iload_n mt109 dX11_clash_25 rfl
theorem s109_26 : aW d 109 26 L S h Q = aW d 109 28 L (.int (nI 12) :: S) h Q := ax_bipush mt109 dX11_clash_26 bp_12
theorem s109_28 : aW d 109 28 L (.int b :: .int a :: S) h Q = (if a < b then aW d 109 31 L S h Q else aW d 109 65 L S h Q) := ax_icmp_ge mt109 dX11_clash_28 (by decide)
theorem s109_31 : aW d 109 31 [.ref o, l1, l2] S h Q = aW d 109 32 [.ref o, l1, l2] (.ref o :: S) h Q := ax_aload_n mt109 dX11_clash_31 rfl
theorem s109_32 : aW d 109 32 [l0, .int a, l2] S h Q = aW d 109 33 [l0, .int a, l2] (.int a :: S) h Q := ax_iload_n mt109 dX11_clash_32 rfl
theorem s109_33 : aW d 109 33 [l0, l1, .int a] S h Q = aW d 109 34 [l0, l1, .int a] (.int a :: S) h Q := ax_iload_n mt109 dX11_clash_33 rfl
theorem s109_34 (hT : gT h o = some (13, 14)) : aW (d + 1) 109 34 L (.int x1 :: .int x0 :: .ref o :: []) h Q = aM d 137 (.ref o :: [.int x0, .int x1]) h (fun v h1 => aW (d + 1) 109 37 L (ab_ps v []) h1 Q) := ax_invv mt109 dX11_clash_34 (by decide) ct_45287 (.inl rfl) mt137 ⟨⟨Nat.le_of_ble_eq_true rfl, Nat.le_of_ble_eq_true rfl, Nat.le_of_ble_eq_true rfl⟩, rfl, rfl, rfl⟩ hT
theorem s109_37 : aW d 109 37 L (.int a :: S) h Q = (if a = 0 then aW d 109 59 L S h Q else aW d 109 40 L S h Q) := ax_if_eq mt109 dX11_clash_37 (by decide)
theorem s109_40 : aW d 109 40 [.ref o, l1, l2] S h Q = aW d 109 41 [.ref o, l1, l2] (.ref o :: S) h Q := ax_aload_n mt109 dX11_clash_40 rfl
theorem s109_41 (hT : gT h o = some (13, 14)) : aW d 109 41 L (.ref o :: S) h Q = (isRf (gR h o 3) = true ∧ aW d 109 44 L (gR h o 3 :: S) h Q) := ax_geta mt109 dX11_clash_41 (by decide) ft_45088 fk_45088 hT
theorem s109_44 : aW d 109 44 [l0, .int a, l2] S h Q = aW d 109 45 [l0, .int a, l2] (.int a :: S) h Q := ax_iload_n mt109 dX11_clash_44 rfl
theorem s109_45 : aW d 109 45 [l0, l1, .int a] S h Q = aW d 109 46 [l0, l1, .int a] (.int a :: S) h Q := ax_iload_n mt109 dX11_clash_45 rfl
theorem s109_46 (hT : gT h o = some (12, 9)) : aW (d + 1) 109 46 L (.int x1 :: .int x0 :: .ref o :: []) h Q = aM d 92 (.ref o :: [.int x0, .int x1]) h (fun v h1 => aW (d + 1) 109 49 L (ab_ps v []) h1 Q) := ax_invv mt109 dX11_clash_46 (by decide) ct_45291 (.inl rfl) mt92 ⟨⟨Nat.le_of_ble_eq_true rfl, Nat.le_of_ble_eq_true rfl, Nat.le_of_ble_eq_true rfl⟩, rfl, rfl, rfl⟩ hT
theorem s109_49 : aW d 109 49 L (.int a :: S) h Q = (if a = 0 then aW d 109 59 L S h Q else aW d 109 52 L S h Q) := ax_if_eq mt109 dX11_clash_49 (by decide)
theorem s109_52 : aW d 109 52 L S h Q = aW d 109 54 L (.int (nI 100) :: S) h Q := ax_bipush mt109 dX11_clash_52 bp_100
theorem s109_54 : aW d 109 54 [l0, .int a, l2] S h Q = aW d 109 55 [l0, .int a, l2] (.int a :: S) h Q := ax_iload_n mt109 dX11_clash_54 rfl
theorem s109_55 : aW d 109 55 L (.int b :: .int a :: S) h Q = aW d 109 56 L (.int (a * b) :: S) h Q := ax_imul mt109 dX11_clash_55
theorem s109_56 : aW d 109 56 [l0, l1, .int a] S h Q = aW d 109 57 [l0, l1, .int a] (.int a :: S) h Q := ax_iload_n mt109 dX11_clash_56 rfl
theorem s109_57 : aW d 109 57 L (.int b :: .int a :: S) h Q = aW d 109 58 L (.int (a + b) :: S) h Q := ax_iadd mt109 dX11_clash_57
theorem s109_58 : aW d 109 58 L [.int a] h Q = Q (some (.int a)) h := ax_reti mt109 dX11_clash_58 rfl
theorem s109_59 : aW d 109 59 [l0, l1, .int a] S h Q = aW d 109 62 [l0, l1, .int (a + nI 1)] S h Q := ax_iinc mt109 dX11_clash_59 rfl ic_1 rfl
theorem s109_62 : aW d 109 62 L S h Q = aW d 109 25 L S h Q := ax_goto mt109 dX11_clash_62 (by decide)
theorem s109_65 : aW d 109 65 [l0, .int a, l2] S h Q = aW d 109 68 [l0, .int (a + nI 1), l2] S h Q := ax_iinc mt109 dX11_clash_65 rfl ic_1 rfl
theorem s109_68 : aW d 109 68 L S h Q = aW d 109 15 L S h Q := ax_goto mt109 dX11_clash_68 (by decide)
theorem s109_71 : aW d 109 71 L S h Q = aW d 109 72 L (.int ((-1)) :: S) h Q := ax_iconst mt109 dX11_clash_71 ic_m1
theorem s109_72 : aW d 109 72 L [.int a] h Q = Q (some (.int a)) h := ax_reti mt109 dX11_clash_72 rfl
-- method 110: BufferRoom.sendOut(III)I
theorem dX11_sendOut_0 : decode cX11_sendOut 0 = .ok (.aload_n 0, 1) := by decide +kernel
theorem dX11_sendOut_1 : decode cX11_sendOut 1 = .ok (.iload_n 1, 1) := by decide +kernel
theorem dX11_sendOut_2 : decode cX11_sendOut 2 = .ok (.invokevirtual 216, 3) := by decide +kernel
theorem dX11_sendOut_5 : decode cX11_sendOut 5 = .ok (.istore 4, 2) := by decide +kernel
theorem dX11_sendOut_7 : decode cX11_sendOut 7 = .ok (.iload 4, 2) := by decide +kernel
theorem dX11_sendOut_9 : decode cX11_sendOut 9 = .ok (.bipush (-5), 2) := by decide +kernel
theorem dX11_sendOut_11 : decode cX11_sendOut 11 = .ok (.if_icmp .eq 10, 3) := by decide +kernel
theorem dX11_sendOut_14 : decode cX11_sendOut 14 = .ok (.iload 4, 2) := by decide +kernel
theorem dX11_sendOut_16 : decode cX11_sendOut 16 = .ok (.bipush (-11), 2) := by decide +kernel
theorem dX11_sendOut_18 : decode cX11_sendOut 18 = .ok (.if_icmp .ne 6, 3) := by decide +kernel
theorem dX11_sendOut_21 : decode cX11_sendOut 21 = .ok (.iload 4, 2) := by decide +kernel
theorem dX11_sendOut_23 : decode cX11_sendOut 23 = .ok (.ireturn, 1) := by decide +kernel
theorem dX11_sendOut_24 : decode cX11_sendOut 24 = .ok (.iload 4, 2) := by decide +kernel
theorem dX11_sendOut_26 : decode cX11_sendOut 26 = .ok (.ifCond .lt 24, 3) := by decide +kernel
theorem dX11_sendOut_29 : decode cX11_sendOut 29 = .ok (.iload_n 2, 1) := by decide +kernel
theorem dX11_sendOut_30 : decode cX11_sendOut 30 = .ok (.ifCond .lt 20, 3) := by decide +kernel
theorem dX11_sendOut_33 : decode cX11_sendOut 33 = .ok (.iload_n 2, 1) := by decide +kernel
theorem dX11_sendOut_34 : decode cX11_sendOut 34 = .ok (.ldc 238, 2) := by decide +kernel
theorem dX11_sendOut_36 : decode cX11_sendOut 36 = .ok (.if_icmp .ge 14, 3) := by decide +kernel
theorem dX11_sendOut_39 : decode cX11_sendOut 39 = .ok (.iload_n 3, 1) := by decide +kernel
theorem dX11_sendOut_40 : decode cX11_sendOut 40 = .ok (.iconst 1, 1) := by decide +kernel
theorem dX11_sendOut_41 : decode cX11_sendOut 41 = .ok (.if_icmp .lt 9, 3) := by decide +kernel
theorem dX11_sendOut_44 : decode cX11_sendOut 44 = .ok (.iload_n 3, 1) := by decide +kernel
theorem dX11_sendOut_45 : decode cX11_sendOut 45 = .ok (.bipush 99, 2) := by decide +kernel
theorem dX11_sendOut_47 : decode cX11_sendOut 47 = .ok (.if_icmp .le 6, 3) := by decide +kernel
theorem dX11_sendOut_50 : decode cX11_sendOut 50 = .ok (.bipush (-2), 2) := by decide +kernel
theorem dX11_sendOut_52 : decode cX11_sendOut 52 = .ok (.ireturn, 1) := by decide +kernel
theorem dX11_sendOut_53 : decode cX11_sendOut 53 = .ok (.aload_n 0, 1) := by decide +kernel
theorem dX11_sendOut_54 : decode cX11_sendOut 54 = .ok (.getfield 32, 3) := by decide +kernel
theorem dX11_sendOut_57 : decode cX11_sendOut 57 = .ok (.getfield 146, 3) := by decide +kernel
theorem dX11_sendOut_60 : decode cX11_sendOut 60 = .ok (.ifCond .ne 6, 3) := by decide +kernel
theorem dX11_sendOut_63 : decode cX11_sendOut 63 = .ok (.bipush (-3), 2) := by decide +kernel
theorem dX11_sendOut_65 : decode cX11_sendOut 65 = .ok (.ireturn, 1) := by decide +kernel
theorem dX11_sendOut_66 : decode cX11_sendOut 66 = .ok (.aload_n 0, 1) := by decide +kernel
theorem dX11_sendOut_67 : decode cX11_sendOut 67 = .ok (.getfield 57, 3) := by decide +kernel
theorem dX11_sendOut_70 : decode cX11_sendOut 70 = .ok (.aload_n 0, 1) := by decide +kernel
theorem dX11_sendOut_71 : decode cX11_sendOut 71 = .ok (.getfield 32, 3) := by decide +kernel
theorem dX11_sendOut_74 : decode cX11_sendOut 74 = .ok (.aload_n 0, 1) := by decide +kernel
theorem dX11_sendOut_75 : decode cX11_sendOut 75 = .ok (.getfield 80, 3) := by decide +kernel
theorem dX11_sendOut_78 : decode cX11_sendOut 78 = .ok (.iload_n 1, 1) := by decide +kernel
theorem dX11_sendOut_79 : decode cX11_sendOut 79 = .ok (.aaload, 1) := by decide +kernel
theorem dX11_sendOut_80 : decode cX11_sendOut 80 = .ok (.iload_n 2, 1) := by decide +kernel
theorem dX11_sendOut_81 : decode cX11_sendOut 81 = .ok (.iload_n 3, 1) := by decide +kernel
theorem dX11_sendOut_82 : decode cX11_sendOut 82 = .ok (.invokevirtual 239, 3) := by decide +kernel
theorem dX11_sendOut_85 : decode cX11_sendOut 85 = .ok (.istore 5, 2) := by decide +kernel
theorem dX11_sendOut_87 : decode cX11_sendOut 87 = .ok (.iload 5, 2) := by decide +kernel
theorem dX11_sendOut_89 : decode cX11_sendOut 89 = .ok (.ifCond .ge 8, 3) := by decide +kernel
theorem dX11_sendOut_92 : decode cX11_sendOut 92 = .ok (.bipush (-6), 2) := by decide +kernel
theorem dX11_sendOut_94 : decode cX11_sendOut 94 = .ok (.goto 5, 3) := by decide +kernel
theorem dX11_sendOut_97 : decode cX11_sendOut 97 = .ok (.iload 5, 2) := by decide +kernel
theorem dX11_sendOut_99 : decode cX11_sendOut 99 = .ok (.ireturn, 1) := by decide +kernel
theorem s110_0 : aW d 110 0 [.ref o, l1, l2, l3, l4, l5] S h Q = aW d 110 1 [.ref o, l1, l2, l3, l4, l5] (.ref o :: S) h Q := ax_aload_n mt110 dX11_sendOut_0 rfl
theorem s110_1 : aW d 110 1 [l0, .int a, l2, l3, l4, l5] S h Q = aW d 110 2 [l0, .int a, l2, l3, l4, l5] (.int a :: S) h Q := ax_iload_n mt110 dX11_sendOut_1 rfl
theorem s110_2 (hT : gT h o = some (13, 14)) : aW (d + 1) 110 2 L (.int x0 :: .ref o :: []) h Q = aM d 136 (.ref o :: [.int x0]) h (fun v h1 => aW (d + 1) 110 5 L (ab_ps v []) h1 Q) := ax_invv mt110 dX11_sendOut_2 (by decide) ct_45272 (.inl rfl) mt136 ⟨⟨Nat.le_of_ble_eq_true rfl, Nat.le_of_ble_eq_true rfl, Nat.le_of_ble_eq_true rfl⟩, rfl, rfl, rfl⟩ hT
theorem s110_5 : aW d 110 5 [l0, l1, l2, l3, l4, l5] (.int a :: S) h Q = aW d 110 7 [l0, l1, l2, l3, .int a, l5] S h Q := ax_istore mt110 dX11_sendOut_5 (Nat.le_of_ble_eq_true rfl) rfl
theorem s110_7 : aW d 110 7 [l0, l1, l2, l3, .int a, l5] S h Q = aW d 110 9 [l0, l1, l2, l3, .int a, l5] (.int a :: S) h Q := ax_iload mt110 dX11_sendOut_7 rfl
theorem s110_9 : aW d 110 9 L S h Q = aW d 110 11 L (.int ((-5)) :: S) h Q := ax_bipush mt110 dX11_sendOut_9 bp_m5
theorem s110_11 : aW d 110 11 L (.int b :: .int a :: S) h Q = (if a = b then aW d 110 21 L S h Q else aW d 110 14 L S h Q) := ax_icmp_eq mt110 dX11_sendOut_11 (by decide)
theorem s110_14 : aW d 110 14 [l0, l1, l2, l3, .int a, l5] S h Q = aW d 110 16 [l0, l1, l2, l3, .int a, l5] (.int a :: S) h Q := ax_iload mt110 dX11_sendOut_14 rfl
theorem s110_16 : aW d 110 16 L S h Q = aW d 110 18 L (.int ((-11)) :: S) h Q := ax_bipush mt110 dX11_sendOut_16 bp_m11
theorem s110_18 : aW d 110 18 L (.int b :: .int a :: S) h Q = (if a = b then aW d 110 21 L S h Q else aW d 110 24 L S h Q) := ax_icmp_ne mt110 dX11_sendOut_18 (by decide)
theorem s110_24 : aW d 110 24 [l0, l1, l2, l3, .int a, l5] S h Q = aW d 110 26 [l0, l1, l2, l3, .int a, l5] (.int a :: S) h Q := ax_iload mt110 dX11_sendOut_24 rfl
theorem s110_26 : aW d 110 26 L (.int a :: S) h Q = (if a < 0 then aW d 110 50 L S h Q else aW d 110 29 L S h Q) := ax_if_lt mt110 dX11_sendOut_26 (by decide)
theorem s110_29 : aW d 110 29 [l0, l1, .int a, l3, l4, l5] S h Q = aW d 110 30 [l0, l1, .int a, l3, l4, l5] (.int a :: S) h Q := ax_iload_n mt110 dX11_sendOut_29 rfl
theorem s110_30 : aW d 110 30 L (.int a :: S) h Q = (if a < 0 then aW d 110 50 L S h Q else aW d 110 33 L S h Q) := ax_if_lt mt110 dX11_sendOut_30 (by decide)
theorem s110_33 : aW d 110 33 [l0, l1, .int a, l3, l4, l5] S h Q = aW d 110 34 [l0, l1, .int a, l3, l4, l5] (.int a :: S) h Q := ax_iload_n mt110 dX11_sendOut_33 rfl
theorem s110_34 : aW d 110 34 L S h Q = aW d 110 36 L (.int 100000 :: S) h Q := ax_ldc mt110 dX11_sendOut_34 (by decide) kt_45294
theorem s110_36 : aW d 110 36 L (.int b :: .int a :: S) h Q = (if a < b then aW d 110 39 L S h Q else aW d 110 50 L S h Q) := ax_icmp_ge mt110 dX11_sendOut_36 (by decide)
theorem s110_39 : aW d 110 39 [l0, l1, l2, .int a, l4, l5] S h Q = aW d 110 40 [l0, l1, l2, .int a, l4, l5] (.int a :: S) h Q := ax_iload_n mt110 dX11_sendOut_39 rfl
theorem s110_40 : aW d 110 40 L S h Q = aW d 110 41 L (.int (nI 1) :: S) h Q := ax_iconst mt110 dX11_sendOut_40 ic_1
theorem s110_41 : aW d 110 41 L (.int b :: .int a :: S) h Q = (if a < b then aW d 110 50 L S h Q else aW d 110 44 L S h Q) := ax_icmp_lt mt110 dX11_sendOut_41 (by decide)
theorem s110_44 : aW d 110 44 [l0, l1, l2, .int a, l4, l5] S h Q = aW d 110 45 [l0, l1, l2, .int a, l4, l5] (.int a :: S) h Q := ax_iload_n mt110 dX11_sendOut_44 rfl
theorem s110_45 : aW d 110 45 L S h Q = aW d 110 47 L (.int (nI 99) :: S) h Q := ax_bipush mt110 dX11_sendOut_45 bp_99
theorem s110_47 : aW d 110 47 L (.int b :: .int a :: S) h Q = (if b < a then aW d 110 50 L S h Q else aW d 110 53 L S h Q) := ax_icmp_le mt110 dX11_sendOut_47 (by decide)
theorem s110_53 : aW d 110 53 [.ref o, l1, l2, l3, l4, l5] S h Q = aW d 110 54 [.ref o, l1, l2, l3, l4, l5] (.ref o :: S) h Q := ax_aload_n mt110 dX11_sendOut_53 rfl
theorem s110_54 (hT : gT h o = some (13, 14)) : aW d 110 54 L (.ref o :: S) h Q = (isRf (gR h o 3) = true ∧ aW d 110 57 L (gR h o 3 :: S) h Q) := ax_geta mt110 dX11_sendOut_54 (by decide) ft_45088 fk_45088 hT
theorem s110_57 (hT : gT h o = some (12, 9)) : aW d 110 57 L (.ref o :: S) h Q = aW d 110 60 L (.int (gI h o 3) :: S) h Q := ax_geti mt110 dX11_sendOut_57 (by decide) ft_45202 fk_45202 hT
theorem s110_60 : aW d 110 60 L (.int a :: S) h Q = (if a = 0 then aW d 110 63 L S h Q else aW d 110 66 L S h Q) := ax_if_ne mt110 dX11_sendOut_60 (by decide)
theorem s110_63 : aW d 110 63 L S h Q = aW d 110 65 L (.int ((-3)) :: S) h Q := ax_bipush mt110 dX11_sendOut_63 bp_m3
theorem s110_65 : aW d 110 65 L [.int a] h Q = Q (some (.int a)) h := ax_reti mt110 dX11_sendOut_65 rfl
theorem s110_66 : aW d 110 66 [.ref o, l1, l2, l3, l4, l5] S h Q = aW d 110 67 [.ref o, l1, l2, l3, l4, l5] (.ref o :: S) h Q := ax_aload_n mt110 dX11_sendOut_66 rfl
theorem s110_67 (hT : gT h o = some (13, 14)) : aW d 110 67 L (.ref o :: S) h Q = (isRf (gR h o 7) = true ∧ aW d 110 70 L (gR h o 7 :: S) h Q) := ax_geta mt110 dX11_sendOut_67 (by decide) ft_45113 fk_45113 hT
theorem s110_70 : aW d 110 70 [.ref o, l1, l2, l3, l4, l5] S h Q = aW d 110 71 [.ref o, l1, l2, l3, l4, l5] (.ref o :: S) h Q := ax_aload_n mt110 dX11_sendOut_70 rfl
theorem s110_71 (hT : gT h o = some (13, 14)) : aW d 110 71 L (.ref o :: S) h Q = (isRf (gR h o 3) = true ∧ aW d 110 74 L (gR h o 3 :: S) h Q) := ax_geta mt110 dX11_sendOut_71 (by decide) ft_45088 fk_45088 hT
theorem s110_74 : aW d 110 74 [.ref o, l1, l2, l3, l4, l5] S h Q = aW d 110 75 [.ref o, l1, l2, l3, l4, l5] (.ref o :: S) h Q := ax_aload_n mt110 dX11_sendOut_74 rfl
theorem s110_75 (hT : gT h o = some (13, 14)) : aW d 110 75 L (.ref o :: S) h Q = (isRf (gR h o 12) = true ∧ aW d 110 78 L (gR h o 12 :: S) h Q) := ax_geta mt110 dX11_sendOut_75 (by decide) ft_45136 fk_45136 hT
theorem s110_78 : aW d 110 78 [l0, .int a, l2, l3, l4, l5] S h Q = aW d 110 79 [l0, .int a, l2, l3, l4, l5] (.int a :: S) h Q := ax_iload_n mt110 dX11_sendOut_78 rfl
theorem s110_79 : aW d 110 79 L (.int a :: .ref o :: S) h Q = ((inb a (aQ h o) ∧ isRf (gR h o a.toNatClampNeg) = true) ∧ aW d 110 80 L (gR h o a.toNatClampNeg :: S) h Q) := ax_aald mt110 dX11_sendOut_79
theorem s110_80 : aW d 110 80 [l0, l1, .int a, l3, l4, l5] S h Q = aW d 110 81 [l0, l1, .int a, l3, l4, l5] (.int a :: S) h Q := ax_iload_n mt110 dX11_sendOut_80 rfl
theorem s110_81 : aW d 110 81 [l0, l1, l2, .int a, l4, l5] S h Q = aW d 110 82 [l0, l1, l2, .int a, l4, l5] (.int a :: S) h Q := ax_iload_n mt110 dX11_sendOut_81 rfl
theorem s110_82 (hT : gT h o = some (10, 3)) : aW (d + 1) 110 82 L (.int x3 :: .int x2 :: .ref p1 :: .ref p0 :: .ref o :: []) h Q = aM d 72 (.ref o :: [.ref p0, .ref p1, .int x2, .int x3]) h (fun v h1 => aW (d + 1) 110 85 L (ab_ps v []) h1 Q) := ax_invv mt110 dX11_sendOut_82 (by decide) ct_45295 (.inl rfl) mt72 ⟨⟨Nat.le_of_ble_eq_true rfl, Nat.le_of_ble_eq_true rfl, Nat.le_of_ble_eq_true rfl⟩, rfl, rfl, rfl⟩ hT
theorem s110_85 : aW d 110 85 [l0, l1, l2, l3, l4, l5] (.int a :: S) h Q = aW d 110 87 [l0, l1, l2, l3, l4, .int a] S h Q := ax_istore mt110 dX11_sendOut_85 (Nat.le_of_ble_eq_true rfl) rfl
theorem s110_87 : aW d 110 87 [l0, l1, l2, l3, l4, .int a] S h Q = aW d 110 89 [l0, l1, l2, l3, l4, .int a] (.int a :: S) h Q := ax_iload mt110 dX11_sendOut_87 rfl
theorem s110_89 : aW d 110 89 L (.int a :: S) h Q = (if a < 0 then aW d 110 92 L S h Q else aW d 110 97 L S h Q) := ax_if_ge mt110 dX11_sendOut_89 (by decide)
theorem s110_92 : aW d 110 92 L S h Q = aW d 110 94 L (.int ((-6)) :: S) h Q := ax_bipush mt110 dX11_sendOut_92 bp_m6
theorem s110_94 : aW d 110 94 L S h Q = aW d 110 99 L S h Q := ax_goto mt110 dX11_sendOut_94 (by decide)
theorem s110_99 : aW d 110 99 L [.int a] h Q = Q (some (.int a)) h := ax_reti mt110 dX11_sendOut_99 rfl
theorem s110_97 : aW d 110 97 [l0, l1, l2, l3, l4, .int a] S h Q = aW d 110 99 [l0, l1, l2, l3, l4, .int a] (.int a :: S) h Q := ax_iload mt110 dX11_sendOut_97 rfl
theorem s110_50 : aW d 110 50 L S h Q = aW d 110 52 L (.int ((-2)) :: S) h Q := ax_bipush mt110 dX11_sendOut_50 bp_m2
theorem s110_52 : aW d 110 52 L [.int a] h Q = Q (some (.int a)) h := ax_reti mt110 dX11_sendOut_52 rfl
theorem s110_21 : aW d 110 21 [l0, l1, l2, l3, .int a, l5] S h Q = aW d 110 23 [l0, l1, l2, l3, .int a, l5] (.int a :: S) h Q := ax_iload mt110 dX11_sendOut_21 rfl
theorem s110_23 : aW d 110 23 L [.int a] h Q = Q (some (.int a)) h := ax_reti mt110 dX11_sendOut_23 rfl
-- method 111: BufferRoom.outs()I
theorem dX11_outs_0 : decode cX11_outs 0 = .ok (.aload_n 0, 1) := by decide +kernel
theorem dX11_outs_1 : decode cX11_outs 1 = .ok (.getfield 57, 3) := by decide +kernel
theorem dX11_outs_4 : decode cX11_outs 4 = .ok (.getfield 242, 3) := by decide +kernel
theorem dX11_outs_7 : decode cX11_outs 7 = .ok (.ireturn, 1) := by decide +kernel
theorem s111_0 : aW d 111 0 [.ref o] S h Q = aW d 111 1 [.ref o] (.ref o :: S) h Q := ax_aload_n mt111 dX11_outs_0 rfl
theorem s111_1 (hT : gT h o = some (13, 14)) : aW d 111 1 L (.ref o :: S) h Q = (isRf (gR h o 7) = true ∧ aW d 111 4 L (gR h o 7 :: S) h Q) := ax_geta mt111 dX11_outs_1 (by decide) ft_45113 fk_45113 hT
theorem s111_4 (hT : gT h o = some (10, 3)) : aW d 111 4 L (.ref o :: S) h Q = aW d 111 7 L (.int (gI h o 0) :: S) h Q := ax_geti mt111 dX11_outs_4 (by decide) ft_45298 fk_45298 hT
theorem s111_7 : aW d 111 7 L [.int a] h Q = Q (some (.int a)) h := ax_reti mt111 dX11_outs_7 rfl
-- method 112: BufferRoom.pair(I)I
theorem dX11_pair_0 : decode cX11_pair 0 = .ok (.iload_n 1, 1) := by decide +kernel
theorem dX11_pair_1 : decode cX11_pair 1 = .ok (.ifCond .lt 10, 3) := by decide +kernel
theorem dX11_pair_4 : decode cX11_pair 4 = .ok (.iload_n 1, 1) := by decide +kernel
theorem dX11_pair_5 : decode cX11_pair 5 = .ok (.sipush 400, 3) := by decide +kernel
theorem dX11_pair_8 : decode cX11_pair 8 = .ok (.if_icmp .le 6, 3) := by decide +kernel
theorem dX11_pair_11 : decode cX11_pair 11 = .ok (.bipush (-2), 2) := by decide +kernel
theorem dX11_pair_13 : decode cX11_pair 13 = .ok (.ireturn, 1) := by decide +kernel
theorem dX11_pair_14 : decode cX11_pair 14 = .ok (.aload_n 0, 1) := by decide +kernel
theorem dX11_pair_15 : decode cX11_pair 15 = .ok (.getfield 32, 3) := by decide +kernel
theorem dX11_pair_18 : decode cX11_pair 18 = .ok (.getfield 146, 3) := by decide +kernel
theorem dX11_pair_21 : decode cX11_pair 21 = .ok (.ifCond .ne 6, 3) := by decide +kernel
theorem dX11_pair_24 : decode cX11_pair 24 = .ok (.bipush (-3), 2) := by decide +kernel
theorem dX11_pair_26 : decode cX11_pair 26 = .ok (.ireturn, 1) := by decide +kernel
theorem dX11_pair_27 : decode cX11_pair 27 = .ok (.aload_n 0, 1) := by decide +kernel
theorem dX11_pair_28 : decode cX11_pair 28 = .ok (.getfield 64, 3) := by decide +kernel
theorem dX11_pair_31 : decode cX11_pair 31 = .ok (.aload_n 0, 1) := by decide +kernel
theorem dX11_pair_32 : decode cX11_pair 32 = .ok (.getfield 32, 3) := by decide +kernel
theorem dX11_pair_35 : decode cX11_pair 35 = .ok (.invokevirtual 244, 3) := by decide +kernel
theorem dX11_pair_38 : decode cX11_pair 38 = .ok (.aload_n 0, 1) := by decide +kernel
theorem dX11_pair_39 : decode cX11_pair 39 = .ok (.getfield 64, 3) := by decide +kernel
theorem dX11_pair_42 : decode cX11_pair 42 = .ok (.iload_n 1, 1) := by decide +kernel
theorem dX11_pair_43 : decode cX11_pair 43 = .ok (.invokevirtual 248, 3) := by decide +kernel
theorem dX11_pair_46 : decode cX11_pair 46 = .ok (.ireturn, 1) := by decide +kernel
theorem s112_0 : aW d 112 0 [l0, .int a] S h Q = aW d 112 1 [l0, .int a] (.int a :: S) h Q := ax_iload_n mt112 dX11_pair_0 rfl
theorem s112_1 : aW d 112 1 L (.int a :: S) h Q = (if a < 0 then aW d 112 11 L S h Q else aW d 112 4 L S h Q) := ax_if_lt mt112 dX11_pair_1 (by decide)
theorem s112_4 : aW d 112 4 [l0, .int a] S h Q = aW d 112 5 [l0, .int a] (.int a :: S) h Q := ax_iload_n mt112 dX11_pair_4 rfl
theorem s112_5 : aW d 112 5 L S h Q = aW d 112 8 L (.int (nI 400) :: S) h Q := ax_sipush mt112 dX11_pair_5 sp_400
theorem s112_8 : aW d 112 8 L (.int b :: .int a :: S) h Q = (if b < a then aW d 112 11 L S h Q else aW d 112 14 L S h Q) := ax_icmp_le mt112 dX11_pair_8 (by decide)
theorem s112_14 : aW d 112 14 [.ref o, l1] S h Q = aW d 112 15 [.ref o, l1] (.ref o :: S) h Q := ax_aload_n mt112 dX11_pair_14 rfl
theorem s112_15 (hT : gT h o = some (13, 14)) : aW d 112 15 L (.ref o :: S) h Q = (isRf (gR h o 3) = true ∧ aW d 112 18 L (gR h o 3 :: S) h Q) := ax_geta mt112 dX11_pair_15 (by decide) ft_45088 fk_45088 hT
theorem s112_18 (hT : gT h o = some (12, 9)) : aW d 112 18 L (.ref o :: S) h Q = aW d 112 21 L (.int (gI h o 3) :: S) h Q := ax_geti mt112 dX11_pair_18 (by decide) ft_45202 fk_45202 hT
theorem s112_21 : aW d 112 21 L (.int a :: S) h Q = (if a = 0 then aW d 112 24 L S h Q else aW d 112 27 L S h Q) := ax_if_ne mt112 dX11_pair_21 (by decide)
theorem s112_24 : aW d 112 24 L S h Q = aW d 112 26 L (.int ((-3)) :: S) h Q := ax_bipush mt112 dX11_pair_24 bp_m3
theorem s112_26 : aW d 112 26 L [.int a] h Q = Q (some (.int a)) h := ax_reti mt112 dX11_pair_26 rfl
theorem s112_27 : aW d 112 27 [.ref o, l1] S h Q = aW d 112 28 [.ref o, l1] (.ref o :: S) h Q := ax_aload_n mt112 dX11_pair_27 rfl
theorem s112_28 (hT : gT h o = some (13, 14)) : aW d 112 28 L (.ref o :: S) h Q = (isRf (gR h o 8) = true ∧ aW d 112 31 L (gR h o 8 :: S) h Q) := ax_geta mt112 dX11_pair_28 (by decide) ft_45120 fk_45120 hT
theorem s112_31 : aW d 112 31 [.ref o, l1] S h Q = aW d 112 32 [.ref o, l1] (.ref o :: S) h Q := ax_aload_n mt112 dX11_pair_31 rfl
theorem s112_32 (hT : gT h o = some (13, 14)) : aW d 112 32 L (.ref o :: S) h Q = (isRf (gR h o 3) = true ∧ aW d 112 35 L (gR h o 3 :: S) h Q) := ax_geta mt112 dX11_pair_32 (by decide) ft_45088 fk_45088 hT
theorem s112_35 (hT : gT h o = some (7, 3)) : aW (d + 1) 112 35 L (.ref p0 :: .ref o :: []) h Q = aM d 38 (.ref o :: [.ref p0]) h (fun v h1 => aW (d + 1) 112 38 L (ab_ps v []) h1 Q) := ax_invv mt112 dX11_pair_35 (by decide) ct_45300 (.inl rfl) mt38 ⟨⟨Nat.le_of_ble_eq_true rfl, Nat.le_of_ble_eq_true rfl, Nat.le_of_ble_eq_true rfl⟩, rfl, rfl, rfl⟩ hT
theorem s112_38 : aW d 112 38 [.ref o, l1] S h Q = aW d 112 39 [.ref o, l1] (.ref o :: S) h Q := ax_aload_n mt112 dX11_pair_38 rfl
theorem s112_39 (hT : gT h o = some (13, 14)) : aW d 112 39 L (.ref o :: S) h Q = (isRf (gR h o 8) = true ∧ aW d 112 42 L (gR h o 8 :: S) h Q) := ax_geta mt112 dX11_pair_39 (by decide) ft_45120 fk_45120 hT
theorem s112_42 : aW d 112 42 [l0, .int a] S h Q = aW d 112 43 [l0, .int a] (.int a :: S) h Q := ax_iload_n mt112 dX11_pair_42 rfl
theorem s112_43 (hT : gT h o = some (7, 3)) : aW (d + 1) 112 43 L (.int x0 :: .ref o :: []) h Q = aM d 39 (.ref o :: [.int x0]) h (fun v h1 => aW (d + 1) 112 46 L (ab_ps v []) h1 Q) := ax_invv mt112 dX11_pair_43 (by decide) ct_45304 (.inl rfl) mt39 ⟨⟨Nat.le_of_ble_eq_true rfl, Nat.le_of_ble_eq_true rfl, Nat.le_of_ble_eq_true rfl⟩, rfl, rfl, rfl⟩ hT
theorem s112_46 : aW d 112 46 L [.int a] h Q = Q (some (.int a)) h := ax_reti mt112 dX11_pair_46 rfl
theorem s112_11 : aW d 112 11 L S h Q = aW d 112 13 L (.int ((-2)) :: S) h Q := ax_bipush mt112 dX11_pair_11 bp_m2
theorem s112_13 : aW d 112 13 L [.int a] h Q = Q (some (.int a)) h := ax_reti mt112 dX11_pair_13 rfl
-- method 113: BufferRoom.bestPhase(I)I
theorem dX11_bestPhase_0 : decode cX11_bestPhase 0 = .ok (.iload_n 1, 1) := by decide +kernel
theorem dX11_bestPhase_1 : decode cX11_bestPhase 1 = .ok (.ifCond .lt 10, 3) := by decide +kernel
theorem dX11_bestPhase_4 : decode cX11_bestPhase 4 = .ok (.iload_n 1, 1) := by decide +kernel
theorem dX11_bestPhase_5 : decode cX11_bestPhase 5 = .ok (.sipush 400, 3) := by decide +kernel
theorem dX11_bestPhase_8 : decode cX11_bestPhase 8 = .ok (.if_icmp .le 6, 3) := by decide +kernel
theorem dX11_bestPhase_11 : decode cX11_bestPhase 11 = .ok (.bipush (-2), 2) := by decide +kernel
theorem dX11_bestPhase_13 : decode cX11_bestPhase 13 = .ok (.ireturn, 1) := by decide +kernel
theorem dX11_bestPhase_14 : decode cX11_bestPhase 14 = .ok (.aload_n 0, 1) := by decide +kernel
theorem dX11_bestPhase_15 : decode cX11_bestPhase 15 = .ok (.getfield 32, 3) := by decide +kernel
theorem dX11_bestPhase_18 : decode cX11_bestPhase 18 = .ok (.getfield 146, 3) := by decide +kernel
theorem dX11_bestPhase_21 : decode cX11_bestPhase 21 = .ok (.ifCond .ne 6, 3) := by decide +kernel
theorem dX11_bestPhase_24 : decode cX11_bestPhase 24 = .ok (.bipush (-3), 2) := by decide +kernel
theorem dX11_bestPhase_26 : decode cX11_bestPhase 26 = .ok (.ireturn, 1) := by decide +kernel
theorem dX11_bestPhase_27 : decode cX11_bestPhase 27 = .ok (.aload_n 0, 1) := by decide +kernel
theorem dX11_bestPhase_28 : decode cX11_bestPhase 28 = .ok (.getfield 64, 3) := by decide +kernel
theorem dX11_bestPhase_31 : decode cX11_bestPhase 31 = .ok (.aload_n 0, 1) := by decide +kernel
theorem dX11_bestPhase_32 : decode cX11_bestPhase 32 = .ok (.getfield 32, 3) := by decide +kernel
theorem dX11_bestPhase_35 : decode cX11_bestPhase 35 = .ok (.invokevirtual 244, 3) := by decide +kernel
theorem dX11_bestPhase_38 : decode cX11_bestPhase 38 = .ok (.aload_n 0, 1) := by decide +kernel
theorem dX11_bestPhase_39 : decode cX11_bestPhase 39 = .ok (.getfield 64, 3) := by decide +kernel
theorem dX11_bestPhase_42 : decode cX11_bestPhase 42 = .ok (.iload_n 1, 1) := by decide +kernel
theorem dX11_bestPhase_43 : decode cX11_bestPhase 43 = .ok (.invokevirtual 251, 3) := by decide +kernel
theorem dX11_bestPhase_46 : decode cX11_bestPhase 46 = .ok (.ireturn, 1) := by decide +kernel
theorem s113_0 : aW d 113 0 [l0, .int a] S h Q = aW d 113 1 [l0, .int a] (.int a :: S) h Q := ax_iload_n mt113 dX11_bestPhase_0 rfl
theorem s113_1 : aW d 113 1 L (.int a :: S) h Q = (if a < 0 then aW d 113 11 L S h Q else aW d 113 4 L S h Q) := ax_if_lt mt113 dX11_bestPhase_1 (by decide)
theorem s113_4 : aW d 113 4 [l0, .int a] S h Q = aW d 113 5 [l0, .int a] (.int a :: S) h Q := ax_iload_n mt113 dX11_bestPhase_4 rfl
theorem s113_5 : aW d 113 5 L S h Q = aW d 113 8 L (.int (nI 400) :: S) h Q := ax_sipush mt113 dX11_bestPhase_5 sp_400
theorem s113_8 : aW d 113 8 L (.int b :: .int a :: S) h Q = (if b < a then aW d 113 11 L S h Q else aW d 113 14 L S h Q) := ax_icmp_le mt113 dX11_bestPhase_8 (by decide)
theorem s113_14 : aW d 113 14 [.ref o, l1] S h Q = aW d 113 15 [.ref o, l1] (.ref o :: S) h Q := ax_aload_n mt113 dX11_bestPhase_14 rfl
theorem s113_15 (hT : gT h o = some (13, 14)) : aW d 113 15 L (.ref o :: S) h Q = (isRf (gR h o 3) = true ∧ aW d 113 18 L (gR h o 3 :: S) h Q) := ax_geta mt113 dX11_bestPhase_15 (by decide) ft_45088 fk_45088 hT
theorem s113_18 (hT : gT h o = some (12, 9)) : aW d 113 18 L (.ref o :: S) h Q = aW d 113 21 L (.int (gI h o 3) :: S) h Q := ax_geti mt113 dX11_bestPhase_18 (by decide) ft_45202 fk_45202 hT
theorem s113_21 : aW d 113 21 L (.int a :: S) h Q = (if a = 0 then aW d 113 24 L S h Q else aW d 113 27 L S h Q) := ax_if_ne mt113 dX11_bestPhase_21 (by decide)
theorem s113_24 : aW d 113 24 L S h Q = aW d 113 26 L (.int ((-3)) :: S) h Q := ax_bipush mt113 dX11_bestPhase_24 bp_m3
theorem s113_26 : aW d 113 26 L [.int a] h Q = Q (some (.int a)) h := ax_reti mt113 dX11_bestPhase_26 rfl
theorem s113_27 : aW d 113 27 [.ref o, l1] S h Q = aW d 113 28 [.ref o, l1] (.ref o :: S) h Q := ax_aload_n mt113 dX11_bestPhase_27 rfl
theorem s113_28 (hT : gT h o = some (13, 14)) : aW d 113 28 L (.ref o :: S) h Q = (isRf (gR h o 8) = true ∧ aW d 113 31 L (gR h o 8 :: S) h Q) := ax_geta mt113 dX11_bestPhase_28 (by decide) ft_45120 fk_45120 hT
theorem s113_31 : aW d 113 31 [.ref o, l1] S h Q = aW d 113 32 [.ref o, l1] (.ref o :: S) h Q := ax_aload_n mt113 dX11_bestPhase_31 rfl
theorem s113_32 (hT : gT h o = some (13, 14)) : aW d 113 32 L (.ref o :: S) h Q = (isRf (gR h o 3) = true ∧ aW d 113 35 L (gR h o 3 :: S) h Q) := ax_geta mt113 dX11_bestPhase_32 (by decide) ft_45088 fk_45088 hT
theorem s113_35 (hT : gT h o = some (7, 3)) : aW (d + 1) 113 35 L (.ref p0 :: .ref o :: []) h Q = aM d 38 (.ref o :: [.ref p0]) h (fun v h1 => aW (d + 1) 113 38 L (ab_ps v []) h1 Q) := ax_invv mt113 dX11_bestPhase_35 (by decide) ct_45300 (.inl rfl) mt38 ⟨⟨Nat.le_of_ble_eq_true rfl, Nat.le_of_ble_eq_true rfl, Nat.le_of_ble_eq_true rfl⟩, rfl, rfl, rfl⟩ hT
theorem s113_38 : aW d 113 38 [.ref o, l1] S h Q = aW d 113 39 [.ref o, l1] (.ref o :: S) h Q := ax_aload_n mt113 dX11_bestPhase_38 rfl
theorem s113_39 (hT : gT h o = some (13, 14)) : aW d 113 39 L (.ref o :: S) h Q = (isRf (gR h o 8) = true ∧ aW d 113 42 L (gR h o 8 :: S) h Q) := ax_geta mt113 dX11_bestPhase_39 (by decide) ft_45120 fk_45120 hT
theorem s113_42 : aW d 113 42 [l0, .int a] S h Q = aW d 113 43 [l0, .int a] (.int a :: S) h Q := ax_iload_n mt113 dX11_bestPhase_42 rfl
theorem s113_43 (hT : gT h o = some (7, 3)) : aW (d + 1) 113 43 L (.int x0 :: .ref o :: []) h Q = aM d 41 (.ref o :: [.int x0]) h (fun v h1 => aW (d + 1) 113 46 L (ab_ps v []) h1 Q) := ax_invv mt113 dX11_bestPhase_43 (by decide) ct_45307 (.inl rfl) mt41 ⟨⟨Nat.le_of_ble_eq_true rfl, Nat.le_of_ble_eq_true rfl, Nat.le_of_ble_eq_true rfl⟩, rfl, rfl, rfl⟩ hT
theorem s113_46 : aW d 113 46 L [.int a] h Q = Q (some (.int a)) h := ax_reti mt113 dX11_bestPhase_46 rfl
theorem s113_11 : aW d 113 11 L S h Q = aW d 113 13 L (.int ((-2)) :: S) h Q := ax_bipush mt113 dX11_bestPhase_11 bp_m2
theorem s113_13 : aW d 113 13 L [.int a] h Q = Q (some (.int a)) h := ax_reti mt113 dX11_bestPhase_13 rfl
-- method 114: BufferRoom.rule(I)I
theorem dX11_rule_0 : decode cX11_rule 0 = .ok (.iload_n 1, 1) := by decide +kernel
theorem dX11_rule_1 : decode cX11_rule 1 = .ok (.ifCond .lt 8, 3) := by decide +kernel
theorem dX11_rule_4 : decode cX11_rule 4 = .ok (.iload_n 1, 1) := by decide +kernel
theorem dX11_rule_5 : decode cX11_rule 5 = .ok (.iconst 2, 1) := by decide +kernel
theorem dX11_rule_6 : decode cX11_rule 6 = .ok (.if_icmp .le 6, 3) := by decide +kernel
theorem dX11_rule_9 : decode cX11_rule 9 = .ok (.bipush (-2), 2) := by decide +kernel
theorem dX11_rule_11 : decode cX11_rule 11 = .ok (.ireturn, 1) := by decide +kernel
theorem dX11_rule_12 : decode cX11_rule 12 = .ok (.aload_n 0, 1) := by decide +kernel
theorem dX11_rule_13 : decode cX11_rule 13 = .ok (.getfield 71, 3) := by decide +kernel
theorem dX11_rule_16 : decode cX11_rule 16 = .ok (.getfield 254, 3) := by decide +kernel
theorem dX11_rule_19 : decode cX11_rule 19 = .ok (.istore_n 2, 1) := by decide +kernel
theorem dX11_rule_20 : decode cX11_rule 20 = .ok (.aload_n 0, 1) := by decide +kernel
theorem dX11_rule_21 : decode cX11_rule 21 = .ok (.getfield 71, 3) := by decide +kernel
theorem dX11_rule_24 : decode cX11_rule 24 = .ok (.iload_n 1, 1) := by decide +kernel
theorem dX11_rule_25 : decode cX11_rule 25 = .ok (.putfield 254, 3) := by decide +kernel
theorem dX11_rule_28 : decode cX11_rule 28 = .ok (.iload_n 2, 1) := by decide +kernel
theorem dX11_rule_29 : decode cX11_rule 29 = .ok (.ireturn, 1) := by decide +kernel
theorem s114_0 : aW d 114 0 [l0, .int a, l2] S h Q = aW d 114 1 [l0, .int a, l2] (.int a :: S) h Q := ax_iload_n mt114 dX11_rule_0 rfl
theorem s114_1 : aW d 114 1 L (.int a :: S) h Q = (if a < 0 then aW d 114 9 L S h Q else aW d 114 4 L S h Q) := ax_if_lt mt114 dX11_rule_1 (by decide)
theorem s114_4 : aW d 114 4 [l0, .int a, l2] S h Q = aW d 114 5 [l0, .int a, l2] (.int a :: S) h Q := ax_iload_n mt114 dX11_rule_4 rfl
theorem s114_5 : aW d 114 5 L S h Q = aW d 114 6 L (.int (nI 2) :: S) h Q := ax_iconst mt114 dX11_rule_5 ic_2
theorem s114_6 : aW d 114 6 L (.int b :: .int a :: S) h Q = (if b < a then aW d 114 9 L S h Q else aW d 114 12 L S h Q) := ax_icmp_le mt114 dX11_rule_6 (by decide)
theorem s114_12 : aW d 114 12 [.ref o, l1, l2] S h Q = aW d 114 13 [.ref o, l1, l2] (.ref o :: S) h Q := ax_aload_n mt114 dX11_rule_12 rfl
theorem s114_13 (hT : gT h o = some (13, 14)) : aW d 114 13 L (.ref o :: S) h Q = (isRf (gR h o 9) = true ∧ aW d 114 16 L (gR h o 9 :: S) h Q) := ax_geta mt114 dX11_rule_13 (by decide) ft_45127 fk_45127 hT
theorem s114_16 (hT : gT h o = some (3, 5)) : aW d 114 16 L (.ref o :: S) h Q = aW d 114 19 L (.int (gI h o 2) :: S) h Q := ax_geti mt114 dX11_rule_16 (by decide) ft_45310 fk_45310 hT
theorem s114_19 : aW d 114 19 [l0, l1, l2] (.int a :: S) h Q = aW d 114 20 [l0, l1, .int a] S h Q := ax_istore_n mt114 dX11_rule_19 (Nat.le_of_ble_eq_true rfl) rfl
theorem s114_20 : aW d 114 20 [.ref o, l1, l2] S h Q = aW d 114 21 [.ref o, l1, l2] (.ref o :: S) h Q := ax_aload_n mt114 dX11_rule_20 rfl
theorem s114_21 (hT : gT h o = some (13, 14)) : aW d 114 21 L (.ref o :: S) h Q = (isRf (gR h o 9) = true ∧ aW d 114 24 L (gR h o 9 :: S) h Q) := ax_geta mt114 dX11_rule_21 (by decide) ft_45127 fk_45127 hT
theorem s114_24 : aW d 114 24 [l0, .int a, l2] S h Q = aW d 114 25 [l0, .int a, l2] (.int a :: S) h Q := ax_iload_n mt114 dX11_rule_24 rfl
theorem s114_25 (hT : gT h o = some (3, 5)) : aW d 114 25 L (.int a :: .ref o :: S) h Q = aW d 114 28 L S (pI h o 2 a) Q := ax_puti mt114 dX11_rule_25 (by decide) ft_45310 (fun q => fn_45310 q.1) fp_45310 hT
theorem s114_28 : aW d 114 28 [l0, l1, .int a] S h Q = aW d 114 29 [l0, l1, .int a] (.int a :: S) h Q := ax_iload_n mt114 dX11_rule_28 rfl
theorem s114_29 : aW d 114 29 L [.int a] h Q = Q (some (.int a)) h := ax_reti mt114 dX11_rule_29 rfl
theorem s114_9 : aW d 114 9 L S h Q = aW d 114 11 L (.int ((-2)) :: S) h Q := ax_bipush mt114 dX11_rule_9 bp_m2
theorem s114_11 : aW d 114 11 L [.int a] h Q = Q (some (.int a)) h := ax_reti mt114 dX11_rule_11 rfl
-- method 115: BufferRoom.go(I)I
theorem dX11_go_0 : decode cX11_go 0 = .ok (.iload_n 1, 1) := by decide +kernel
theorem dX11_go_1 : decode cX11_go 1 = .ok (.iconst 1, 1) := by decide +kernel
theorem dX11_go_2 : decode cX11_go 2 = .ok (.if_icmp .lt 9, 3) := by decide +kernel
theorem dX11_go_5 : decode cX11_go 5 = .ok (.iload_n 1, 1) := by decide +kernel
theorem dX11_go_6 : decode cX11_go 6 = .ok (.bipush 12, 2) := by decide +kernel
theorem dX11_go_8 : decode cX11_go 8 = .ok (.if_icmp .le 6, 3) := by decide +kernel
theorem dX11_go_11 : decode cX11_go 11 = .ok (.bipush (-2), 2) := by decide +kernel
theorem dX11_go_13 : decode cX11_go 13 = .ok (.ireturn, 1) := by decide +kernel
theorem dX11_go_14 : decode cX11_go 14 = .ok (.aload_n 0, 1) := by decide +kernel
theorem dX11_go_15 : decode cX11_go 15 = .ok (.getfield 32, 3) := by decide +kernel
theorem dX11_go_18 : decode cX11_go 18 = .ok (.getfield 146, 3) := by decide +kernel
theorem dX11_go_21 : decode cX11_go 21 = .ok (.ifCond .eq 22, 3) := by decide +kernel
theorem dX11_go_24 : decode cX11_go 24 = .ok (.aload_n 0, 1) := by decide +kernel
theorem dX11_go_25 : decode cX11_go 25 = .ok (.getfield 71, 3) := by decide +kernel
theorem dX11_go_28 : decode cX11_go 28 = .ok (.getfield 106, 3) := by decide +kernel
theorem dX11_go_31 : decode cX11_go 31 = .ok (.iload_n 1, 1) := by decide +kernel
theorem dX11_go_32 : decode cX11_go 32 = .ok (.iadd, 1) := by decide +kernel
theorem dX11_go_33 : decode cX11_go 33 = .ok (.aload_n 0, 1) := by decide +kernel
theorem dX11_go_34 : decode cX11_go 34 = .ok (.getfield 19, 3) := by decide +kernel
theorem dX11_go_37 : decode cX11_go 37 = .ok (.getfield 103, 3) := by decide +kernel
theorem dX11_go_40 : decode cX11_go 40 = .ok (.if_icmp .le 6, 3) := by decide +kernel
theorem dX11_go_43 : decode cX11_go 43 = .ok (.bipush (-3), 2) := by decide +kernel
theorem dX11_go_45 : decode cX11_go 45 = .ok (.ireturn, 1) := by decide +kernel
theorem dX11_go_46 : decode cX11_go 46 = .ok (.iconst 0, 1) := by decide +kernel
theorem dX11_go_47 : decode cX11_go 47 = .ok (.istore_n 2, 1) := by decide +kernel
theorem dX11_go_48 : decode cX11_go 48 = .ok (.iload_n 2, 1) := by decide +kernel
theorem dX11_go_49 : decode cX11_go 49 = .ok (.iload_n 1, 1) := by decide +kernel
theorem dX11_go_50 : decode cX11_go 50 = .ok (.if_icmp .ge 20, 3) := by decide +kernel
theorem dX11_go_53 : decode cX11_go 53 = .ok (.aload_n 0, 1) := by decide +kernel
theorem dX11_go_54 : decode cX11_go 54 = .ok (.getfield 71, 3) := by decide +kernel
theorem dX11_go_57 : decode cX11_go 57 = .ok (.aload_n 0, 1) := by decide +kernel
theorem dX11_go_58 : decode cX11_go 58 = .ok (.getfield 32, 3) := by decide +kernel
theorem dX11_go_61 : decode cX11_go 61 = .ok (.invokevirtual 257, 3) := by decide +kernel
theorem dX11_go_64 : decode cX11_go 64 = .ok (.iinc 2 1, 3) := by decide +kernel
theorem dX11_go_67 : decode cX11_go 67 = .ok (.goto (-19), 3) := by decide +kernel
theorem dX11_go_70 : decode cX11_go 70 = .ok (.aload_n 0, 1) := by decide +kernel
theorem dX11_go_71 : decode cX11_go 71 = .ok (.getfield 71, 3) := by decide +kernel
theorem dX11_go_74 : decode cX11_go 74 = .ok (.getfield 106, 3) := by decide +kernel
theorem dX11_go_77 : decode cX11_go 77 = .ok (.ireturn, 1) := by decide +kernel
theorem s115_0 : aW d 115 0 [l0, .int a, l2] S h Q = aW d 115 1 [l0, .int a, l2] (.int a :: S) h Q := ax_iload_n mt115 dX11_go_0 rfl
theorem s115_1 : aW d 115 1 L S h Q = aW d 115 2 L (.int (nI 1) :: S) h Q := ax_iconst mt115 dX11_go_1 ic_1
theorem s115_2 : aW d 115 2 L (.int b :: .int a :: S) h Q = (if a < b then aW d 115 11 L S h Q else aW d 115 5 L S h Q) := ax_icmp_lt mt115 dX11_go_2 (by decide)
theorem s115_5 : aW d 115 5 [l0, .int a, l2] S h Q = aW d 115 6 [l0, .int a, l2] (.int a :: S) h Q := ax_iload_n mt115 dX11_go_5 rfl
theorem s115_6 : aW d 115 6 L S h Q = aW d 115 8 L (.int (nI 12) :: S) h Q := ax_bipush mt115 dX11_go_6 bp_12
theorem s115_8 : aW d 115 8 L (.int b :: .int a :: S) h Q = (if b < a then aW d 115 11 L S h Q else aW d 115 14 L S h Q) := ax_icmp_le mt115 dX11_go_8 (by decide)
theorem s115_14 : aW d 115 14 [.ref o, l1, l2] S h Q = aW d 115 15 [.ref o, l1, l2] (.ref o :: S) h Q := ax_aload_n mt115 dX11_go_14 rfl
theorem s115_15 (hT : gT h o = some (13, 14)) : aW d 115 15 L (.ref o :: S) h Q = (isRf (gR h o 3) = true ∧ aW d 115 18 L (gR h o 3 :: S) h Q) := ax_geta mt115 dX11_go_15 (by decide) ft_45088 fk_45088 hT
theorem s115_18 (hT : gT h o = some (12, 9)) : aW d 115 18 L (.ref o :: S) h Q = aW d 115 21 L (.int (gI h o 3) :: S) h Q := ax_geti mt115 dX11_go_18 (by decide) ft_45202 fk_45202 hT
theorem s115_21 : aW d 115 21 L (.int a :: S) h Q = (if a = 0 then aW d 115 43 L S h Q else aW d 115 24 L S h Q) := ax_if_eq mt115 dX11_go_21 (by decide)
theorem s115_24 : aW d 115 24 [.ref o, l1, l2] S h Q = aW d 115 25 [.ref o, l1, l2] (.ref o :: S) h Q := ax_aload_n mt115 dX11_go_24 rfl
theorem s115_25 (hT : gT h o = some (13, 14)) : aW d 115 25 L (.ref o :: S) h Q = (isRf (gR h o 9) = true ∧ aW d 115 28 L (gR h o 9 :: S) h Q) := ax_geta mt115 dX11_go_25 (by decide) ft_45127 fk_45127 hT
theorem s115_28 (hT : gT h o = some (3, 5)) : aW d 115 28 L (.ref o :: S) h Q = aW d 115 31 L (.int (gI h o 0) :: S) h Q := ax_geti mt115 dX11_go_28 (by decide) ft_45162 fk_45162 hT
theorem s115_31 : aW d 115 31 [l0, .int a, l2] S h Q = aW d 115 32 [l0, .int a, l2] (.int a :: S) h Q := ax_iload_n mt115 dX11_go_31 rfl
theorem s115_32 : aW d 115 32 L (.int b :: .int a :: S) h Q = aW d 115 33 L (.int (a + b) :: S) h Q := ax_iadd mt115 dX11_go_32
theorem s115_33 : aW d 115 33 [.ref o, l1, l2] S h Q = aW d 115 34 [.ref o, l1, l2] (.ref o :: S) h Q := ax_aload_n mt115 dX11_go_33 rfl
theorem s115_34 (hT : gT h o = some (13, 14)) : aW d 115 34 L (.ref o :: S) h Q = (isRf (gR h o 1) = true ∧ aW d 115 37 L (gR h o 1 :: S) h Q) := ax_geta mt115 dX11_go_34 (by decide) ft_45075 fk_45075 hT
theorem s115_37 (hT : gT h o = some (8, 12)) : aW d 115 37 L (.ref o :: S) h Q = aW d 115 40 L (.int (gI h o 6) :: S) h Q := ax_geti mt115 dX11_go_37 (by decide) ft_45159 fk_45159 hT
theorem s115_40 : aW d 115 40 L (.int b :: .int a :: S) h Q = (if b < a then aW d 115 43 L S h Q else aW d 115 46 L S h Q) := ax_icmp_le mt115 dX11_go_40 (by decide)
theorem s115_46 : aW d 115 46 L S h Q = aW d 115 47 L (.int (nI 0) :: S) h Q := ax_iconst mt115 dX11_go_46 ic_0
theorem s115_47 : aW d 115 47 [l0, l1, l2] (.int a :: S) h Q = aW d 115 48 [l0, l1, .int a] S h Q := ax_istore_n mt115 dX11_go_47 (Nat.le_of_ble_eq_true rfl) rfl
theorem s115_48 : aW d 115 48 [l0, l1, .int a] S h Q = aW d 115 49 [l0, l1, .int a] (.int a :: S) h Q := ax_iload_n mt115 dX11_go_48 rfl
theorem s115_49 : aW d 115 49 [l0, .int a, l2] S h Q = aW d 115 50 [l0, .int a, l2] (.int a :: S) h Q := ax_iload_n mt115 dX11_go_49 rfl
theorem s115_50 : aW d 115 50 L (.int b :: .int a :: S) h Q = (if a < b then aW d 115 53 L S h Q else aW d 115 70 L S h Q) := ax_icmp_ge mt115 dX11_go_50 (by decide)
theorem s115_53 : aW d 115 53 [.ref o, l1, l2] S h Q = aW d 115 54 [.ref o, l1, l2] (.ref o :: S) h Q := ax_aload_n mt115 dX11_go_53 rfl
theorem s115_54 (hT : gT h o = some (13, 14)) : aW d 115 54 L (.ref o :: S) h Q = (isRf (gR h o 9) = true ∧ aW d 115 57 L (gR h o 9 :: S) h Q) := ax_geta mt115 dX11_go_54 (by decide) ft_45127 fk_45127 hT
theorem s115_57 : aW d 115 57 [.ref o, l1, l2] S h Q = aW d 115 58 [.ref o, l1, l2] (.ref o :: S) h Q := ax_aload_n mt115 dX11_go_57 rfl
theorem s115_58 (hT : gT h o = some (13, 14)) : aW d 115 58 L (.ref o :: S) h Q = (isRf (gR h o 3) = true ∧ aW d 115 61 L (gR h o 3 :: S) h Q) := ax_geta mt115 dX11_go_58 (by decide) ft_45088 fk_45088 hT
theorem s115_61 (hT : gT h o = some (3, 5)) : aW (d + 1) 115 61 L (.ref p0 :: .ref o :: []) h Q = aM d 3 (.ref o :: [.ref p0]) h (fun v h1 => aW (d + 1) 115 64 L (ab_ps v []) h1 Q) := ax_invv mt115 dX11_go_61 (by decide) ct_45313 (.inl rfl) mt3 ⟨⟨Nat.le_of_ble_eq_true rfl, Nat.le_of_ble_eq_true rfl, Nat.le_of_ble_eq_true rfl⟩, rfl, rfl, rfl⟩ hT
theorem s115_64 : aW d 115 64 [l0, l1, .int a] S h Q = aW d 115 67 [l0, l1, .int (a + nI 1)] S h Q := ax_iinc mt115 dX11_go_64 rfl ic_1 rfl
theorem s115_67 : aW d 115 67 L S h Q = aW d 115 48 L S h Q := ax_goto mt115 dX11_go_67 (by decide)
theorem s115_70 : aW d 115 70 [.ref o, l1, l2] S h Q = aW d 115 71 [.ref o, l1, l2] (.ref o :: S) h Q := ax_aload_n mt115 dX11_go_70 rfl
theorem s115_71 (hT : gT h o = some (13, 14)) : aW d 115 71 L (.ref o :: S) h Q = (isRf (gR h o 9) = true ∧ aW d 115 74 L (gR h o 9 :: S) h Q) := ax_geta mt115 dX11_go_71 (by decide) ft_45127 fk_45127 hT
theorem s115_74 (hT : gT h o = some (3, 5)) : aW d 115 74 L (.ref o :: S) h Q = aW d 115 77 L (.int (gI h o 0) :: S) h Q := ax_geti mt115 dX11_go_74 (by decide) ft_45162 fk_45162 hT
theorem s115_77 : aW d 115 77 L [.int a] h Q = Q (some (.int a)) h := ax_reti mt115 dX11_go_77 rfl
theorem s115_43 : aW d 115 43 L S h Q = aW d 115 45 L (.int ((-3)) :: S) h Q := ax_bipush mt115 dX11_go_43 bp_m3
theorem s115_45 : aW d 115 45 L [.int a] h Q = Q (some (.int a)) h := ax_reti mt115 dX11_go_45 rfl
theorem s115_11 : aW d 115 11 L S h Q = aW d 115 13 L (.int ((-2)) :: S) h Q := ax_bipush mt115 dX11_go_11 bp_m2
theorem s115_13 : aW d 115 13 L [.int a] h Q = Q (some (.int a)) h := ax_reti mt115 dX11_go_13 rfl
-- method 116: BufferRoom.compact()I
theorem dX11_compact_0 : decode cX11_compact 0 = .ok (.aload_n 0, 1) := by decide +kernel
theorem dX11_compact_1 : decode cX11_compact 1 = .ok (.getfield 71, 3) := by decide +kernel
theorem dX11_compact_4 : decode cX11_compact 4 = .ok (.aload_n 0, 1) := by decide +kernel
theorem dX11_compact_5 : decode cX11_compact 5 = .ok (.getfield 32, 3) := by decide +kernel
theorem dX11_compact_8 : decode cX11_compact 8 = .ok (.getfield 160, 3) := by decide +kernel
theorem dX11_compact_11 : decode cX11_compact 11 = .ok (.getfield 164, 3) := by decide +kernel
theorem dX11_compact_14 : decode cX11_compact 14 = .ok (.invokevirtual 260, 3) := by decide +kernel
theorem dX11_compact_17 : decode cX11_compact 17 = .ok (.ireturn, 1) := by decide +kernel
theorem s116_0 : aW d 116 0 [.ref o] S h Q = aW d 116 1 [.ref o] (.ref o :: S) h Q := ax_aload_n mt116 dX11_compact_0 rfl
theorem s116_1 (hT : gT h o = some (13, 14)) : aW d 116 1 L (.ref o :: S) h Q = (isRf (gR h o 9) = true ∧ aW d 116 4 L (gR h o 9 :: S) h Q) := ax_geta mt116 dX11_compact_1 (by decide) ft_45127 fk_45127 hT
theorem s116_4 : aW d 116 4 [.ref o] S h Q = aW d 116 5 [.ref o] (.ref o :: S) h Q := ax_aload_n mt116 dX11_compact_4 rfl
theorem s116_5 (hT : gT h o = some (13, 14)) : aW d 116 5 L (.ref o :: S) h Q = (isRf (gR h o 3) = true ∧ aW d 116 8 L (gR h o 3 :: S) h Q) := ax_geta mt116 dX11_compact_5 (by decide) ft_45088 fk_45088 hT
theorem s116_8 (hT : gT h o = some (12, 9)) : aW d 116 8 L (.ref o :: S) h Q = (isRf (gR h o 0) = true ∧ aW d 116 11 L (gR h o 0 :: S) h Q) := ax_geta mt116 dX11_compact_8 (by decide) ft_45216 fk_45216 hT
theorem s116_11 (hT : gT h o = some (5, 4)) : aW d 116 11 L (.ref o :: S) h Q = (isRf (gR h o 1) = true ∧ aW d 116 14 L (gR h o 1 :: S) h Q) := ax_geta mt116 dX11_compact_11 (by decide) ft_45220 fk_45220 hT
theorem s116_14 (hT : gT h o = some (3, 5)) : aW (d + 1) 116 14 L (.ref p0 :: .ref o :: []) h Q = aM d 10 (.ref o :: [.ref p0]) h (fun v h1 => aW (d + 1) 116 17 L (ab_ps v []) h1 Q) := ax_invv mt116 dX11_compact_14 (by decide) ct_45316 (.inl rfl) mt10 ⟨⟨Nat.le_of_ble_eq_true rfl, Nat.le_of_ble_eq_true rfl, Nat.le_of_ble_eq_true rfl⟩, rfl, rfl, rfl⟩ hT
theorem s116_17 : aW d 116 17 L [.int a] h Q = Q (some (.int a)) h := ax_reti mt116 dX11_compact_17 rfl
-- method 117: BufferRoom.roomTold(II)I
theorem dX11_roomTold_0 : decode cX11_roomTold 0 = .ok (.iload_n 1, 1) := by decide +kernel
theorem dX11_roomTold_1 : decode cX11_roomTold 1 = .ok (.tableswitch 103 0 4 #[35, 43, 51, 69, 95], 35) := by decide +kernel
theorem dX11_roomTold_36 : decode cX11_roomTold 36 = .ok (.aload_n 0, 1) := by decide +kernel
theorem dX11_roomTold_37 : decode cX11_roomTold 37 = .ok (.getfield 71, 3) := by decide +kernel
theorem dX11_roomTold_40 : decode cX11_roomTold 40 = .ok (.getfield 106, 3) := by decide +kernel
theorem dX11_roomTold_43 : decode cX11_roomTold 43 = .ok (.ireturn, 1) := by decide +kernel
theorem dX11_roomTold_44 : decode cX11_roomTold 44 = .ok (.aload_n 0, 1) := by decide +kernel
theorem dX11_roomTold_45 : decode cX11_roomTold 45 = .ok (.getfield 71, 3) := by decide +kernel
theorem dX11_roomTold_48 : decode cX11_roomTold 48 = .ok (.getfield 264, 3) := by decide +kernel
theorem dX11_roomTold_51 : decode cX11_roomTold 51 = .ok (.ireturn, 1) := by decide +kernel
theorem dX11_roomTold_52 : decode cX11_roomTold 52 = .ok (.aload_n 0, 1) := by decide +kernel
theorem dX11_roomTold_53 : decode cX11_roomTold 53 = .ok (.getfield 71, 3) := by decide +kernel
theorem dX11_roomTold_56 : decode cX11_roomTold 56 = .ok (.aload_n 0, 1) := by decide +kernel
theorem dX11_roomTold_57 : decode cX11_roomTold 57 = .ok (.getfield 32, 3) := by decide +kernel
theorem dX11_roomTold_60 : decode cX11_roomTold 60 = .ok (.getfield 160, 3) := by decide +kernel
theorem dX11_roomTold_63 : decode cX11_roomTold 63 = .ok (.getfield 164, 3) := by decide +kernel
theorem dX11_roomTold_66 : decode cX11_roomTold 66 = .ok (.invokevirtual 267, 3) := by decide +kernel
theorem dX11_roomTold_69 : decode cX11_roomTold 69 = .ok (.ireturn, 1) := by decide +kernel
theorem dX11_roomTold_70 : decode cX11_roomTold 70 = .ok (.aload_n 0, 1) := by decide +kernel
theorem dX11_roomTold_71 : decode cX11_roomTold 71 = .ok (.getfield 19, 3) := by decide +kernel
theorem dX11_roomTold_74 : decode cX11_roomTold 74 = .ok (.iload_n 2, 1) := by decide +kernel
theorem dX11_roomTold_75 : decode cX11_roomTold 75 = .ok (.invokevirtual 157, 3) := by decide +kernel
theorem dX11_roomTold_78 : decode cX11_roomTold 78 = .ok (.ifCond .eq 15, 3) := by decide +kernel
theorem dX11_roomTold_81 : decode cX11_roomTold 81 = .ok (.aload_n 0, 1) := by decide +kernel
theorem dX11_roomTold_82 : decode cX11_roomTold 82 = .ok (.getfield 71, 3) := by decide +kernel
theorem dX11_roomTold_85 : decode cX11_roomTold 85 = .ok (.getfield 270, 3) := by decide +kernel
theorem dX11_roomTold_88 : decode cX11_roomTold 88 = .ok (.iload_n 2, 1) := by decide +kernel
theorem dX11_roomTold_89 : decode cX11_roomTold 89 = .ok (.iaload, 1) := by decide +kernel
theorem dX11_roomTold_90 : decode cX11_roomTold 90 = .ok (.goto 5, 3) := by decide +kernel
theorem dX11_roomTold_93 : decode cX11_roomTold 93 = .ok (.bipush (-5), 2) := by decide +kernel
theorem dX11_roomTold_95 : decode cX11_roomTold 95 = .ok (.ireturn, 1) := by decide +kernel
theorem dX11_roomTold_96 : decode cX11_roomTold 96 = .ok (.aload_n 0, 1) := by decide +kernel
theorem dX11_roomTold_97 : decode cX11_roomTold 97 = .ok (.getfield 71, 3) := by decide +kernel
theorem dX11_roomTold_100 : decode cX11_roomTold 100 = .ok (.getfield 254, 3) := by decide +kernel
theorem dX11_roomTold_103 : decode cX11_roomTold 103 = .ok (.ireturn, 1) := by decide +kernel
theorem dX11_roomTold_104 : decode cX11_roomTold 104 = .ok (.bipush (-7), 2) := by decide +kernel
theorem dX11_roomTold_106 : decode cX11_roomTold 106 = .ok (.ireturn, 1) := by decide +kernel
theorem s117_0 : aW d 117 0 [l0, .int a, l2] S h Q = aW d 117 1 [l0, .int a, l2] (.int a :: S) h Q := ax_iload_n mt117 dX11_roomTold_0 rfl
set_option maxRecDepth 100000 in
theorem s117_1 : aW d 117 1 L (.int a :: S) h Q = (if a = nI 0 then aW d 117 36 L S h Q else (if a = nI 1 then aW d 117 44 L S h Q else (if a = nI 2 then aW d 117 52 L S h Q else (if a = nI 3 then aW d 117 70 L S h Q else (if a = nI 4 then aW d 117 96 L S h Q else aW d 117 104 L S h Q))))) := by
  by_cases e0 : a = nI 0
  · rw [if_pos e0]
    subst e0
    exact ax_tabI (off := 35) mt117 dX11_roomTold_1 (by decide +kernel) (by decide +kernel) (by decide)
  rw [if_neg e0]
  have k0 := lv_neT e0 (show (nI 0 : Int32).toInt = 0 by decide +kernel)
  by_cases e1 : a = nI 1
  · rw [if_pos e1]
    subst e1
    exact ax_tabI (off := 43) mt117 dX11_roomTold_1 (by decide +kernel) (by decide +kernel) (by decide)
  rw [if_neg e1]
  have k1 := lv_neT e1 (show (nI 1 : Int32).toInt = 1 by decide +kernel)
  by_cases e2 : a = nI 2
  · rw [if_pos e2]
    subst e2
    exact ax_tabI (off := 51) mt117 dX11_roomTold_1 (by decide +kernel) (by decide +kernel) (by decide)
  rw [if_neg e2]
  have k2 := lv_neT e2 (show (nI 2 : Int32).toInt = 2 by decide +kernel)
  by_cases e3 : a = nI 3
  · rw [if_pos e3]
    subst e3
    exact ax_tabI (off := 69) mt117 dX11_roomTold_1 (by decide +kernel) (by decide +kernel) (by decide)
  rw [if_neg e3]
  have k3 := lv_neT e3 (show (nI 3 : Int32).toInt = 3 by decide +kernel)
  by_cases e4 : a = nI 4
  · rw [if_pos e4]
    subst e4
    exact ax_tabI (off := 95) mt117 dX11_roomTold_1 (by decide +kernel) (by decide +kernel) (by decide)
  rw [if_neg e4]
  have k4 := lv_neT e4 (show (nI 4 : Int32).toInt = 4 by decide +kernel)
  exact ax_tabO mt117 dX11_roomTold_1 (by omega) (by decide)
theorem s117_96 : aW d 117 96 [.ref o, l1, l2] S h Q = aW d 117 97 [.ref o, l1, l2] (.ref o :: S) h Q := ax_aload_n mt117 dX11_roomTold_96 rfl
theorem s117_97 (hT : gT h o = some (13, 14)) : aW d 117 97 L (.ref o :: S) h Q = (isRf (gR h o 9) = true ∧ aW d 117 100 L (gR h o 9 :: S) h Q) := ax_geta mt117 dX11_roomTold_97 (by decide) ft_45127 fk_45127 hT
theorem s117_100 (hT : gT h o = some (3, 5)) : aW d 117 100 L (.ref o :: S) h Q = aW d 117 103 L (.int (gI h o 2) :: S) h Q := ax_geti mt117 dX11_roomTold_100 (by decide) ft_45310 fk_45310 hT
theorem s117_103 : aW d 117 103 L [.int a] h Q = Q (some (.int a)) h := ax_reti mt117 dX11_roomTold_103 rfl
theorem s117_70 : aW d 117 70 [.ref o, l1, l2] S h Q = aW d 117 71 [.ref o, l1, l2] (.ref o :: S) h Q := ax_aload_n mt117 dX11_roomTold_70 rfl
theorem s117_71 (hT : gT h o = some (13, 14)) : aW d 117 71 L (.ref o :: S) h Q = (isRf (gR h o 1) = true ∧ aW d 117 74 L (gR h o 1 :: S) h Q) := ax_geta mt117 dX11_roomTold_71 (by decide) ft_45075 fk_45075 hT
theorem s117_74 : aW d 117 74 [l0, l1, .int a] S h Q = aW d 117 75 [l0, l1, .int a] (.int a :: S) h Q := ax_iload_n mt117 dX11_roomTold_74 rfl
theorem s117_75 (hT : gT h o = some (8, 12)) : aW (d + 1) 117 75 L (.int x0 :: .ref o :: []) h Q = aM d 44 (.ref o :: [.int x0]) h (fun v h1 => aW (d + 1) 117 78 L (ab_ps v []) h1 Q) := ax_invv mt117 dX11_roomTold_75 (by decide) ct_45213 (.inl rfl) mt44 ⟨⟨Nat.le_of_ble_eq_true rfl, Nat.le_of_ble_eq_true rfl, Nat.le_of_ble_eq_true rfl⟩, rfl, rfl, rfl⟩ hT
theorem s117_78 : aW d 117 78 L (.int a :: S) h Q = (if a = 0 then aW d 117 93 L S h Q else aW d 117 81 L S h Q) := ax_if_eq mt117 dX11_roomTold_78 (by decide)
theorem s117_81 : aW d 117 81 [.ref o, l1, l2] S h Q = aW d 117 82 [.ref o, l1, l2] (.ref o :: S) h Q := ax_aload_n mt117 dX11_roomTold_81 rfl
theorem s117_82 (hT : gT h o = some (13, 14)) : aW d 117 82 L (.ref o :: S) h Q = (isRf (gR h o 9) = true ∧ aW d 117 85 L (gR h o 9 :: S) h Q) := ax_geta mt117 dX11_roomTold_82 (by decide) ft_45127 fk_45127 hT
theorem s117_85 (hT : gT h o = some (3, 5)) : aW d 117 85 L (.ref o :: S) h Q = (isRf (gR h o 3) = true ∧ aW d 117 88 L (gR h o 3 :: S) h Q) := ax_geta mt117 dX11_roomTold_85 (by decide) ft_45326 fk_45326 hT
theorem s117_88 : aW d 117 88 [l0, l1, .int a] S h Q = aW d 117 89 [l0, l1, .int a] (.int a :: S) h Q := ax_iload_n mt117 dX11_roomTold_88 rfl
theorem s117_89 : aW d 117 89 L (.int a :: .ref o :: S) h Q = (inb a (aI h o) ∧ aW d 117 90 L (.int (gI h o a.toNatClampNeg) :: S) h Q) := ax_iald mt117 dX11_roomTold_89
theorem s117_90 : aW d 117 90 L S h Q = aW d 117 95 L S h Q := ax_goto mt117 dX11_roomTold_90 (by decide)
theorem s117_95 : aW d 117 95 L [.int a] h Q = Q (some (.int a)) h := ax_reti mt117 dX11_roomTold_95 rfl
theorem s117_93 : aW d 117 93 L S h Q = aW d 117 95 L (.int ((-5)) :: S) h Q := ax_bipush mt117 dX11_roomTold_93 bp_m5
theorem s117_52 : aW d 117 52 [.ref o, l1, l2] S h Q = aW d 117 53 [.ref o, l1, l2] (.ref o :: S) h Q := ax_aload_n mt117 dX11_roomTold_52 rfl
theorem s117_53 (hT : gT h o = some (13, 14)) : aW d 117 53 L (.ref o :: S) h Q = (isRf (gR h o 9) = true ∧ aW d 117 56 L (gR h o 9 :: S) h Q) := ax_geta mt117 dX11_roomTold_53 (by decide) ft_45127 fk_45127 hT
theorem s117_56 : aW d 117 56 [.ref o, l1, l2] S h Q = aW d 117 57 [.ref o, l1, l2] (.ref o :: S) h Q := ax_aload_n mt117 dX11_roomTold_56 rfl
theorem s117_57 (hT : gT h o = some (13, 14)) : aW d 117 57 L (.ref o :: S) h Q = (isRf (gR h o 3) = true ∧ aW d 117 60 L (gR h o 3 :: S) h Q) := ax_geta mt117 dX11_roomTold_57 (by decide) ft_45088 fk_45088 hT
theorem s117_60 (hT : gT h o = some (12, 9)) : aW d 117 60 L (.ref o :: S) h Q = (isRf (gR h o 0) = true ∧ aW d 117 63 L (gR h o 0 :: S) h Q) := ax_geta mt117 dX11_roomTold_60 (by decide) ft_45216 fk_45216 hT
theorem s117_63 (hT : gT h o = some (5, 4)) : aW d 117 63 L (.ref o :: S) h Q = (isRf (gR h o 1) = true ∧ aW d 117 66 L (gR h o 1 :: S) h Q) := ax_geta mt117 dX11_roomTold_63 (by decide) ft_45220 fk_45220 hT
theorem s117_66 (hT : gT h o = some (3, 5)) : aW (d + 1) 117 66 L (.ref p0 :: .ref o :: []) h Q = aM d 9 (.ref o :: [.ref p0]) h (fun v h1 => aW (d + 1) 117 69 L (ab_ps v []) h1 Q) := ax_invv mt117 dX11_roomTold_66 (by decide) ct_45323 (.inl rfl) mt9 ⟨⟨Nat.le_of_ble_eq_true rfl, Nat.le_of_ble_eq_true rfl, Nat.le_of_ble_eq_true rfl⟩, rfl, rfl, rfl⟩ hT
theorem s117_69 : aW d 117 69 L [.int a] h Q = Q (some (.int a)) h := ax_reti mt117 dX11_roomTold_69 rfl
theorem s117_44 : aW d 117 44 [.ref o, l1, l2] S h Q = aW d 117 45 [.ref o, l1, l2] (.ref o :: S) h Q := ax_aload_n mt117 dX11_roomTold_44 rfl
theorem s117_45 (hT : gT h o = some (13, 14)) : aW d 117 45 L (.ref o :: S) h Q = (isRf (gR h o 9) = true ∧ aW d 117 48 L (gR h o 9 :: S) h Q) := ax_geta mt117 dX11_roomTold_45 (by decide) ft_45127 fk_45127 hT
theorem s117_48 (hT : gT h o = some (3, 5)) : aW d 117 48 L (.ref o :: S) h Q = aW d 117 51 L (.int (gI h o 1) :: S) h Q := ax_geti mt117 dX11_roomTold_48 (by decide) ft_45320 fk_45320 hT
theorem s117_51 : aW d 117 51 L [.int a] h Q = Q (some (.int a)) h := ax_reti mt117 dX11_roomTold_51 rfl
theorem s117_36 : aW d 117 36 [.ref o, l1, l2] S h Q = aW d 117 37 [.ref o, l1, l2] (.ref o :: S) h Q := ax_aload_n mt117 dX11_roomTold_36 rfl
theorem s117_37 (hT : gT h o = some (13, 14)) : aW d 117 37 L (.ref o :: S) h Q = (isRf (gR h o 9) = true ∧ aW d 117 40 L (gR h o 9 :: S) h Q) := ax_geta mt117 dX11_roomTold_37 (by decide) ft_45127 fk_45127 hT
theorem s117_40 (hT : gT h o = some (3, 5)) : aW d 117 40 L (.ref o :: S) h Q = aW d 117 43 L (.int (gI h o 0) :: S) h Q := ax_geti mt117 dX11_roomTold_40 (by decide) ft_45162 fk_45162 hT
theorem s117_43 : aW d 117 43 L [.int a] h Q = Q (some (.int a)) h := ax_reti mt117 dX11_roomTold_43 rfl
theorem s117_104 : aW d 117 104 L S h Q = aW d 117 106 L (.int ((-7)) :: S) h Q := ax_bipush mt117 dX11_roomTold_104 bp_m7
theorem s117_106 : aW d 117 106 L [.int a] h Q = Q (some (.int a)) h := ax_reti mt117 dX11_roomTold_106 rfl
-- method 118: BufferRoom.holder(I)I
theorem dX11_holder_0 : decode cX11_holder 0 = .ok (.iload_n 1, 1) := by decide +kernel
theorem dX11_holder_1 : decode cX11_holder 1 = .ok (.ifCond .lt 9, 3) := by decide +kernel
theorem dX11_holder_4 : decode cX11_holder 4 = .ok (.iload_n 1, 1) := by decide +kernel
theorem dX11_holder_5 : decode cX11_holder 5 = .ok (.ldc 238, 2) := by decide +kernel
theorem dX11_holder_7 : decode cX11_holder 7 = .ok (.if_icmp .lt 6, 3) := by decide +kernel
theorem dX11_holder_10 : decode cX11_holder 10 = .ok (.bipush (-2), 2) := by decide +kernel
theorem dX11_holder_12 : decode cX11_holder 12 = .ok (.ireturn, 1) := by decide +kernel
theorem dX11_holder_13 : decode cX11_holder 13 = .ok (.aload_n 0, 1) := by decide +kernel
theorem dX11_holder_14 : decode cX11_holder 14 = .ok (.getfield 71, 3) := by decide +kernel
theorem dX11_holder_17 : decode cX11_holder 17 = .ok (.iload_n 1, 1) := by decide +kernel
theorem dX11_holder_18 : decode cX11_holder 18 = .ok (.aload_n 0, 1) := by decide +kernel
theorem dX11_holder_19 : decode cX11_holder 19 = .ok (.getfield 32, 3) := by decide +kernel
theorem dX11_holder_22 : decode cX11_holder 22 = .ok (.getfield 160, 3) := by decide +kernel
theorem dX11_holder_25 : decode cX11_holder 25 = .ok (.getfield 164, 3) := by decide +kernel
theorem dX11_holder_28 : decode cX11_holder 28 = .ok (.invokevirtual 273, 3) := by decide +kernel
theorem dX11_holder_31 : decode cX11_holder 31 = .ok (.ireturn, 1) := by decide +kernel
theorem s118_0 : aW d 118 0 [l0, .int a] S h Q = aW d 118 1 [l0, .int a] (.int a :: S) h Q := ax_iload_n mt118 dX11_holder_0 rfl
theorem s118_1 : aW d 118 1 L (.int a :: S) h Q = (if a < 0 then aW d 118 10 L S h Q else aW d 118 4 L S h Q) := ax_if_lt mt118 dX11_holder_1 (by decide)
theorem s118_4 : aW d 118 4 [l0, .int a] S h Q = aW d 118 5 [l0, .int a] (.int a :: S) h Q := ax_iload_n mt118 dX11_holder_4 rfl
theorem s118_5 : aW d 118 5 L S h Q = aW d 118 7 L (.int 100000 :: S) h Q := ax_ldc mt118 dX11_holder_5 (by decide) kt_45294
theorem s118_7 : aW d 118 7 L (.int b :: .int a :: S) h Q = (if a < b then aW d 118 13 L S h Q else aW d 118 10 L S h Q) := ax_icmp_lt mt118 dX11_holder_7 (by decide)
theorem s118_13 : aW d 118 13 [.ref o, l1] S h Q = aW d 118 14 [.ref o, l1] (.ref o :: S) h Q := ax_aload_n mt118 dX11_holder_13 rfl
theorem s118_14 (hT : gT h o = some (13, 14)) : aW d 118 14 L (.ref o :: S) h Q = (isRf (gR h o 9) = true ∧ aW d 118 17 L (gR h o 9 :: S) h Q) := ax_geta mt118 dX11_holder_14 (by decide) ft_45127 fk_45127 hT
theorem s118_17 : aW d 118 17 [l0, .int a] S h Q = aW d 118 18 [l0, .int a] (.int a :: S) h Q := ax_iload_n mt118 dX11_holder_17 rfl
theorem s118_18 : aW d 118 18 [.ref o, l1] S h Q = aW d 118 19 [.ref o, l1] (.ref o :: S) h Q := ax_aload_n mt118 dX11_holder_18 rfl
theorem s118_19 (hT : gT h o = some (13, 14)) : aW d 118 19 L (.ref o :: S) h Q = (isRf (gR h o 3) = true ∧ aW d 118 22 L (gR h o 3 :: S) h Q) := ax_geta mt118 dX11_holder_19 (by decide) ft_45088 fk_45088 hT
theorem s118_22 (hT : gT h o = some (12, 9)) : aW d 118 22 L (.ref o :: S) h Q = (isRf (gR h o 0) = true ∧ aW d 118 25 L (gR h o 0 :: S) h Q) := ax_geta mt118 dX11_holder_22 (by decide) ft_45216 fk_45216 hT
theorem s118_25 (hT : gT h o = some (5, 4)) : aW d 118 25 L (.ref o :: S) h Q = (isRf (gR h o 1) = true ∧ aW d 118 28 L (gR h o 1 :: S) h Q) := ax_geta mt118 dX11_holder_25 (by decide) ft_45220 fk_45220 hT
theorem s118_28 (hT : gT h o = some (3, 5)) : aW (d + 1) 118 28 L (.ref p1 :: .int x0 :: .ref o :: []) h Q = aM d 12 (.ref o :: [.int x0, .ref p1]) h (fun v h1 => aW (d + 1) 118 31 L (ab_ps v []) h1 Q) := ax_invv mt118 dX11_holder_28 (by decide) ct_45329 (.inl rfl) mt12 ⟨⟨Nat.le_of_ble_eq_true rfl, Nat.le_of_ble_eq_true rfl, Nat.le_of_ble_eq_true rfl⟩, rfl, rfl, rfl⟩ hT
theorem s118_31 : aW d 118 31 L [.int a] h Q = Q (some (.int a)) h := ax_reti mt118 dX11_holder_31 rfl
theorem s118_10 : aW d 118 10 L S h Q = aW d 118 12 L (.int ((-2)) :: S) h Q := ax_bipush mt118 dX11_holder_10 bp_m2
theorem s118_12 : aW d 118 12 L [.int a] h Q = Q (some (.int a)) h := ax_reti mt118 dX11_holder_12 rfl
-- method 119: BufferRoom.again()I
theorem dX11_again_0 : decode cX11_again 0 = .ok (.aload_n 0, 1) := by decide +kernel
theorem dX11_again_1 : decode cX11_again 1 = .ok (.getfield 71, 3) := by decide +kernel
theorem dX11_again_4 : decode cX11_again 4 = .ok (.getfield 106, 3) := by decide +kernel
theorem dX11_again_7 : decode cX11_again 7 = .ok (.istore_n 1, 1) := by decide +kernel
theorem dX11_again_8 : decode cX11_again 8 = .ok (.aload_n 0, 1) := by decide +kernel
theorem dX11_again_9 : decode cX11_again 9 = .ok (.getfield 71, 3) := by decide +kernel
theorem dX11_again_12 : decode cX11_again 12 = .ok (.invokevirtual 277, 3) := by decide +kernel
theorem dX11_again_15 : decode cX11_again 15 = .ok (.iload_n 1, 1) := by decide +kernel
theorem dX11_again_16 : decode cX11_again 16 = .ok (.ireturn, 1) := by decide +kernel
theorem s119_0 : aW d 119 0 [.ref o, l1] S h Q = aW d 119 1 [.ref o, l1] (.ref o :: S) h Q := ax_aload_n mt119 dX11_again_0 rfl
theorem s119_1 (hT : gT h o = some (13, 14)) : aW d 119 1 L (.ref o :: S) h Q = (isRf (gR h o 9) = true ∧ aW d 119 4 L (gR h o 9 :: S) h Q) := ax_geta mt119 dX11_again_1 (by decide) ft_45127 fk_45127 hT
theorem s119_4 (hT : gT h o = some (3, 5)) : aW d 119 4 L (.ref o :: S) h Q = aW d 119 7 L (.int (gI h o 0) :: S) h Q := ax_geti mt119 dX11_again_4 (by decide) ft_45162 fk_45162 hT
theorem s119_7 : aW d 119 7 [l0, l1] (.int a :: S) h Q = aW d 119 8 [l0, .int a] S h Q := ax_istore_n mt119 dX11_again_7 (Nat.le_of_ble_eq_true rfl) rfl
theorem s119_8 : aW d 119 8 [.ref o, l1] S h Q = aW d 119 9 [.ref o, l1] (.ref o :: S) h Q := ax_aload_n mt119 dX11_again_8 rfl
theorem s119_9 (hT : gT h o = some (13, 14)) : aW d 119 9 L (.ref o :: S) h Q = (isRf (gR h o 9) = true ∧ aW d 119 12 L (gR h o 9 :: S) h Q) := ax_geta mt119 dX11_again_9 (by decide) ft_45127 fk_45127 hT
theorem s119_12 (hT : gT h o = some (3, 5)) : aW (d + 1) 119 12 L (.ref o :: []) h Q = aM d 1 (.ref o :: []) h (fun v h1 => aW (d + 1) 119 15 L (ab_ps v []) h1 Q) := ax_invv mt119 dX11_again_12 (by decide) ct_45333 (.inl rfl) mt1 ⟨⟨Nat.le_of_ble_eq_true rfl, Nat.le_of_ble_eq_true rfl, Nat.le_of_ble_eq_true rfl⟩, rfl, rfl, rfl⟩ hT
theorem s119_15 : aW d 119 15 [l0, .int a] S h Q = aW d 119 16 [l0, .int a] (.int a :: S) h Q := ax_iload_n mt119 dX11_again_15 rfl
theorem s119_16 : aW d 119 16 L [.int a] h Q = Q (some (.int a)) h := ax_reti mt119 dX11_again_16 rfl
-- method 120: BufferRoom.image()I
theorem dX11_image_0 : decode cX11_image 0 = .ok (.aload_n 0, 1) := by decide +kernel
theorem dX11_image_1 : decode cX11_image 1 = .ok (.getfield 75, 3) := by decide +kernel
theorem dX11_image_4 : decode cX11_image 4 = .ok (.aload_n 0, 1) := by decide +kernel
theorem dX11_image_5 : decode cX11_image 5 = .ok (.getfield 71, 3) := by decide +kernel
theorem dX11_image_8 : decode cX11_image 8 = .ok (.invokevirtual 280, 3) := by decide +kernel
theorem dX11_image_11 : decode cX11_image 11 = .ok (.aload_n 0, 1) := by decide +kernel
theorem dX11_image_12 : decode cX11_image 12 = .ok (.iconst 1, 1) := by decide +kernel
theorem dX11_image_13 : decode cX11_image 13 = .ok (.putfield 284, 3) := by decide +kernel
theorem dX11_image_16 : decode cX11_image 16 = .ok (.aload_n 0, 1) := by decide +kernel
theorem dX11_image_17 : decode cX11_image 17 = .ok (.getfield 75, 3) := by decide +kernel
theorem dX11_image_20 : decode cX11_image 20 = .ok (.getfield 106, 3) := by decide +kernel
theorem dX11_image_23 : decode cX11_image 23 = .ok (.ireturn, 1) := by decide +kernel
theorem s120_0 : aW d 120 0 [.ref o] S h Q = aW d 120 1 [.ref o] (.ref o :: S) h Q := ax_aload_n mt120 dX11_image_0 rfl
theorem s120_1 (hT : gT h o = some (13, 14)) : aW d 120 1 L (.ref o :: S) h Q = (isRf (gR h o 10) = true ∧ aW d 120 4 L (gR h o 10 :: S) h Q) := ax_geta mt120 dX11_image_1 (by decide) ft_45131 fk_45131 hT
theorem s120_4 : aW d 120 4 [.ref o] S h Q = aW d 120 5 [.ref o] (.ref o :: S) h Q := ax_aload_n mt120 dX11_image_4 rfl
theorem s120_5 (hT : gT h o = some (13, 14)) : aW d 120 5 L (.ref o :: S) h Q = (isRf (gR h o 9) = true ∧ aW d 120 8 L (gR h o 9 :: S) h Q) := ax_geta mt120 dX11_image_5 (by decide) ft_45127 fk_45127 hT
theorem s120_8 (hT : gT h o = some (3, 5)) : aW (d + 1) 120 8 L (.ref p0 :: .ref o :: []) h Q = aM d 2 (.ref o :: [.ref p0]) h (fun v h1 => aW (d + 1) 120 11 L (ab_ps v []) h1 Q) := ax_invv mt120 dX11_image_8 (by decide) ct_45336 (.inl rfl) mt2 ⟨⟨Nat.le_of_ble_eq_true rfl, Nat.le_of_ble_eq_true rfl, Nat.le_of_ble_eq_true rfl⟩, rfl, rfl, rfl⟩ hT
theorem s120_11 : aW d 120 11 [.ref o] S h Q = aW d 120 12 [.ref o] (.ref o :: S) h Q := ax_aload_n mt120 dX11_image_11 rfl
theorem s120_12 : aW d 120 12 L S h Q = aW d 120 13 L (.int (nI 1) :: S) h Q := ax_iconst mt120 dX11_image_12 ic_1
theorem s120_13 (hT : gT h o = some (13, 14)) : aW d 120 13 L (.int a :: .ref o :: S) h Q = (b01 a ∧ aW d 120 16 L S (pI h o 11 a) Q) := ax_putz mt120 dX11_image_13 (by decide) ft_45340 (fun q => fn_45340 q.1) fp_45340 hT
theorem s120_16 : aW d 120 16 [.ref o] S h Q = aW d 120 17 [.ref o] (.ref o :: S) h Q := ax_aload_n mt120 dX11_image_16 rfl
theorem s120_17 (hT : gT h o = some (13, 14)) : aW d 120 17 L (.ref o :: S) h Q = (isRf (gR h o 10) = true ∧ aW d 120 20 L (gR h o 10 :: S) h Q) := ax_geta mt120 dX11_image_17 (by decide) ft_45131 fk_45131 hT
theorem s120_20 (hT : gT h o = some (3, 5)) : aW d 120 20 L (.ref o :: S) h Q = aW d 120 23 L (.int (gI h o 0) :: S) h Q := ax_geti mt120 dX11_image_20 (by decide) ft_45162 fk_45162 hT
theorem s120_23 : aW d 120 23 L [.int a] h Q = Q (some (.int a)) h := ax_reti mt120 dX11_image_23 rfl
-- method 121: BufferRoom.back()I
theorem dX11_back_0 : decode cX11_back 0 = .ok (.aload_n 0, 1) := by decide +kernel
theorem dX11_back_1 : decode cX11_back 1 = .ok (.getfield 284, 3) := by decide +kernel
theorem dX11_back_4 : decode cX11_back 4 = .ok (.ifCond .ne 6, 3) := by decide +kernel
theorem dX11_back_7 : decode cX11_back 7 = .ok (.bipush (-3), 2) := by decide +kernel
theorem dX11_back_9 : decode cX11_back 9 = .ok (.ireturn, 1) := by decide +kernel
theorem dX11_back_10 : decode cX11_back 10 = .ok (.aload_n 0, 1) := by decide +kernel
theorem dX11_back_11 : decode cX11_back 11 = .ok (.getfield 71, 3) := by decide +kernel
theorem dX11_back_14 : decode cX11_back 14 = .ok (.aload_n 0, 1) := by decide +kernel
theorem dX11_back_15 : decode cX11_back 15 = .ok (.getfield 75, 3) := by decide +kernel
theorem dX11_back_18 : decode cX11_back 18 = .ok (.invokevirtual 280, 3) := by decide +kernel
theorem dX11_back_21 : decode cX11_back 21 = .ok (.aload_n 0, 1) := by decide +kernel
theorem dX11_back_22 : decode cX11_back 22 = .ok (.invokevirtual 112, 3) := by decide +kernel
theorem dX11_back_25 : decode cX11_back 25 = .ok (.aload_n 0, 1) := by decide +kernel
theorem dX11_back_26 : decode cX11_back 26 = .ok (.getfield 71, 3) := by decide +kernel
theorem dX11_back_29 : decode cX11_back 29 = .ok (.getfield 106, 3) := by decide +kernel
theorem dX11_back_32 : decode cX11_back 32 = .ok (.ireturn, 1) := by decide +kernel
theorem s121_0 : aW d 121 0 [.ref o] S h Q = aW d 121 1 [.ref o] (.ref o :: S) h Q := ax_aload_n mt121 dX11_back_0 rfl
theorem s121_1 (hT : gT h o = some (13, 14)) : aW d 121 1 L (.ref o :: S) h Q = aW d 121 4 L (.int (gI h o 11) :: S) h Q := ax_geti mt121 dX11_back_1 (by decide) ft_45340 fk_45340 hT
theorem s121_4 : aW d 121 4 L (.int a :: S) h Q = (if a = 0 then aW d 121 7 L S h Q else aW d 121 10 L S h Q) := ax_if_ne mt121 dX11_back_4 (by decide)
theorem s121_7 : aW d 121 7 L S h Q = aW d 121 9 L (.int ((-3)) :: S) h Q := ax_bipush mt121 dX11_back_7 bp_m3
theorem s121_9 : aW d 121 9 L [.int a] h Q = Q (some (.int a)) h := ax_reti mt121 dX11_back_9 rfl
theorem s121_10 : aW d 121 10 [.ref o] S h Q = aW d 121 11 [.ref o] (.ref o :: S) h Q := ax_aload_n mt121 dX11_back_10 rfl
theorem s121_11 (hT : gT h o = some (13, 14)) : aW d 121 11 L (.ref o :: S) h Q = (isRf (gR h o 9) = true ∧ aW d 121 14 L (gR h o 9 :: S) h Q) := ax_geta mt121 dX11_back_11 (by decide) ft_45127 fk_45127 hT
theorem s121_14 : aW d 121 14 [.ref o] S h Q = aW d 121 15 [.ref o] (.ref o :: S) h Q := ax_aload_n mt121 dX11_back_14 rfl
theorem s121_15 (hT : gT h o = some (13, 14)) : aW d 121 15 L (.ref o :: S) h Q = (isRf (gR h o 10) = true ∧ aW d 121 18 L (gR h o 10 :: S) h Q) := ax_geta mt121 dX11_back_15 (by decide) ft_45131 fk_45131 hT
theorem s121_18 (hT : gT h o = some (3, 5)) : aW (d + 1) 121 18 L (.ref p0 :: .ref o :: []) h Q = aM d 2 (.ref o :: [.ref p0]) h (fun v h1 => aW (d + 1) 121 21 L (ab_ps v []) h1 Q) := ax_invv mt121 dX11_back_18 (by decide) ct_45336 (.inl rfl) mt2 ⟨⟨Nat.le_of_ble_eq_true rfl, Nat.le_of_ble_eq_true rfl, Nat.le_of_ble_eq_true rfl⟩, rfl, rfl, rfl⟩ hT
theorem s121_21 : aW d 121 21 [.ref o] S h Q = aW d 121 22 [.ref o] (.ref o :: S) h Q := ax_aload_n mt121 dX11_back_21 rfl
theorem s121_22 (hT : gT h o = some (13, 14)) : aW (d + 1) 121 22 L (.ref o :: []) h Q = aM d 134 (.ref o :: []) h (fun v h1 => aW (d + 1) 121 25 L (ab_ps v []) h1 Q) := ax_invv mt121 dX11_back_22 (by decide) ct_45168 (.inl rfl) mt134 ⟨⟨Nat.le_of_ble_eq_true rfl, Nat.le_of_ble_eq_true rfl, Nat.le_of_ble_eq_true rfl⟩, rfl, rfl, rfl⟩ hT
theorem s121_25 : aW d 121 25 [.ref o] S h Q = aW d 121 26 [.ref o] (.ref o :: S) h Q := ax_aload_n mt121 dX11_back_25 rfl
theorem s121_26 (hT : gT h o = some (13, 14)) : aW d 121 26 L (.ref o :: S) h Q = (isRf (gR h o 9) = true ∧ aW d 121 29 L (gR h o 9 :: S) h Q) := ax_geta mt121 dX11_back_26 (by decide) ft_45127 fk_45127 hT
theorem s121_29 (hT : gT h o = some (3, 5)) : aW d 121 29 L (.ref o :: S) h Q = aW d 121 32 L (.int (gI h o 0) :: S) h Q := ax_geti mt121 dX11_back_29 (by decide) ft_45162 fk_45162 hT
theorem s121_32 : aW d 121 32 L [.int a] h Q = Q (some (.int a)) h := ax_reti mt121 dX11_back_32 rfl
-- method 122: BufferRoom.kindTold(IIII)I
theorem dX11_kindTold_0 : decode cX11_kindTold 0 = .ok (.iload_n 1, 1) := by decide +kernel
theorem dX11_kindTold_1 : decode cX11_kindTold 1 = .ok (.invokestatic 287, 3) := by decide +kernel
theorem dX11_kindTold_4 : decode cX11_kindTold 4 = .ok (.ifCond .eq 27, 3) := by decide +kernel
theorem dX11_kindTold_7 : decode cX11_kindTold 7 = .ok (.iload_n 3, 1) := by decide +kernel
theorem dX11_kindTold_8 : decode cX11_kindTold 8 = .ok (.ifCond .lt 23, 3) := by decide +kernel
theorem dX11_kindTold_11 : decode cX11_kindTold 11 = .ok (.iload_n 3, 1) := by decide +kernel
theorem dX11_kindTold_12 : decode cX11_kindTold 12 = .ok (.sipush 999, 3) := by decide +kernel
theorem dX11_kindTold_15 : decode cX11_kindTold 15 = .ok (.if_icmp .gt 16, 3) := by decide +kernel
theorem dX11_kindTold_18 : decode cX11_kindTold 18 = .ok (.iload 4, 2) := by decide +kernel
theorem dX11_kindTold_20 : decode cX11_kindTold 20 = .ok (.ifCond .lt 11, 3) := by decide +kernel
theorem dX11_kindTold_23 : decode cX11_kindTold 23 = .ok (.iload 4, 2) := by decide +kernel
theorem dX11_kindTold_25 : decode cX11_kindTold 25 = .ok (.sipush 999, 3) := by decide +kernel
theorem dX11_kindTold_28 : decode cX11_kindTold 28 = .ok (.if_icmp .le 6, 3) := by decide +kernel
theorem dX11_kindTold_31 : decode cX11_kindTold 31 = .ok (.bipush (-2), 2) := by decide +kernel
theorem dX11_kindTold_33 : decode cX11_kindTold 33 = .ok (.ireturn, 1) := by decide +kernel
theorem dX11_kindTold_34 : decode cX11_kindTold 34 = .ok (.iload_n 2, 1) := by decide +kernel
theorem dX11_kindTold_35 : decode cX11_kindTold 35 = .ok (.tableswitch 52 0 2 #[25, 31, 39], 25) := by decide +kernel
theorem dX11_kindTold_60 : decode cX11_kindTold 60 = .ok (.iload_n 1, 1) := by decide +kernel
theorem dX11_kindTold_61 : decode cX11_kindTold 61 = .ok (.iload_n 3, 1) := by decide +kernel
theorem dX11_kindTold_62 : decode cX11_kindTold 62 = .ok (.invokestatic 292, 3) := by decide +kernel
theorem dX11_kindTold_65 : decode cX11_kindTold 65 = .ok (.ireturn, 1) := by decide +kernel
theorem dX11_kindTold_66 : decode cX11_kindTold 66 = .ok (.iload_n 1, 1) := by decide +kernel
theorem dX11_kindTold_67 : decode cX11_kindTold 67 = .ok (.iload_n 3, 1) := by decide +kernel
theorem dX11_kindTold_68 : decode cX11_kindTold 68 = .ok (.iload 4, 2) := by decide +kernel
theorem dX11_kindTold_70 : decode cX11_kindTold 70 = .ok (.invokestatic 296, 3) := by decide +kernel
theorem dX11_kindTold_73 : decode cX11_kindTold 73 = .ok (.ireturn, 1) := by decide +kernel
theorem dX11_kindTold_74 : decode cX11_kindTold 74 = .ok (.iload_n 1, 1) := by decide +kernel
theorem dX11_kindTold_75 : decode cX11_kindTold 75 = .ok (.invokestatic 299, 3) := by decide +kernel
theorem dX11_kindTold_78 : decode cX11_kindTold 78 = .ok (.ifCond .eq 7, 3) := by decide +kernel
theorem dX11_kindTold_81 : decode cX11_kindTold 81 = .ok (.iconst 1, 1) := by decide +kernel
theorem dX11_kindTold_82 : decode cX11_kindTold 82 = .ok (.goto 4, 3) := by decide +kernel
theorem dX11_kindTold_85 : decode cX11_kindTold 85 = .ok (.iconst 0, 1) := by decide +kernel
theorem dX11_kindTold_86 : decode cX11_kindTold 86 = .ok (.ireturn, 1) := by decide +kernel
theorem dX11_kindTold_87 : decode cX11_kindTold 87 = .ok (.bipush (-2), 2) := by decide +kernel
theorem dX11_kindTold_89 : decode cX11_kindTold 89 = .ok (.ireturn, 1) := by decide +kernel
theorem s122_0 : aW d 122 0 [l0, .int a, l2, l3, l4] S h Q = aW d 122 1 [l0, .int a, l2, l3, l4] (.int a :: S) h Q := ax_iload_n mt122 dX11_kindTold_0 rfl
theorem s122_1 : aW (d + 1) 122 1 L (.int x0 :: []) h Q = aM d 20 [.int x0] h (fun v h1 => aW (d + 1) 122 4 L (ab_ps v []) h1 Q) := ax_invs mt122 dX11_kindTold_1 (by decide) ct_45343 (.inl rfl) mt20 ⟨⟨Nat.le_of_ble_eq_true rfl, Nat.le_of_ble_eq_true rfl, Nat.le_of_ble_eq_true rfl⟩, rfl, rfl⟩
theorem s122_4 : aW d 122 4 L (.int a :: S) h Q = (if a = 0 then aW d 122 31 L S h Q else aW d 122 7 L S h Q) := ax_if_eq mt122 dX11_kindTold_4 (by decide)
theorem s122_7 : aW d 122 7 [l0, l1, l2, .int a, l4] S h Q = aW d 122 8 [l0, l1, l2, .int a, l4] (.int a :: S) h Q := ax_iload_n mt122 dX11_kindTold_7 rfl
theorem s122_8 : aW d 122 8 L (.int a :: S) h Q = (if a < 0 then aW d 122 31 L S h Q else aW d 122 11 L S h Q) := ax_if_lt mt122 dX11_kindTold_8 (by decide)
theorem s122_11 : aW d 122 11 [l0, l1, l2, .int a, l4] S h Q = aW d 122 12 [l0, l1, l2, .int a, l4] (.int a :: S) h Q := ax_iload_n mt122 dX11_kindTold_11 rfl
theorem s122_12 : aW d 122 12 L S h Q = aW d 122 15 L (.int (nI 999) :: S) h Q := ax_sipush mt122 dX11_kindTold_12 sp_999
theorem s122_15 : aW d 122 15 L (.int b :: .int a :: S) h Q = (if b < a then aW d 122 31 L S h Q else aW d 122 18 L S h Q) := ax_icmp_gt mt122 dX11_kindTold_15 (by decide)
theorem s122_18 : aW d 122 18 [l0, l1, l2, l3, .int a] S h Q = aW d 122 20 [l0, l1, l2, l3, .int a] (.int a :: S) h Q := ax_iload mt122 dX11_kindTold_18 rfl
theorem s122_20 : aW d 122 20 L (.int a :: S) h Q = (if a < 0 then aW d 122 31 L S h Q else aW d 122 23 L S h Q) := ax_if_lt mt122 dX11_kindTold_20 (by decide)
theorem s122_23 : aW d 122 23 [l0, l1, l2, l3, .int a] S h Q = aW d 122 25 [l0, l1, l2, l3, .int a] (.int a :: S) h Q := ax_iload mt122 dX11_kindTold_23 rfl
theorem s122_25 : aW d 122 25 L S h Q = aW d 122 28 L (.int (nI 999) :: S) h Q := ax_sipush mt122 dX11_kindTold_25 sp_999
theorem s122_28 : aW d 122 28 L (.int b :: .int a :: S) h Q = (if b < a then aW d 122 31 L S h Q else aW d 122 34 L S h Q) := ax_icmp_le mt122 dX11_kindTold_28 (by decide)
theorem s122_34 : aW d 122 34 [l0, l1, .int a, l3, l4] S h Q = aW d 122 35 [l0, l1, .int a, l3, l4] (.int a :: S) h Q := ax_iload_n mt122 dX11_kindTold_34 rfl
set_option maxRecDepth 100000 in
theorem s122_35 : aW d 122 35 L (.int a :: S) h Q = (if a = nI 0 then aW d 122 60 L S h Q else (if a = nI 1 then aW d 122 66 L S h Q else (if a = nI 2 then aW d 122 74 L S h Q else aW d 122 87 L S h Q))) := by
  by_cases e0 : a = nI 0
  · rw [if_pos e0]
    subst e0
    exact ax_tabI (off := 25) mt122 dX11_kindTold_35 (by decide +kernel) (by decide +kernel) (by decide)
  rw [if_neg e0]
  have k0 := lv_neT e0 (show (nI 0 : Int32).toInt = 0 by decide +kernel)
  by_cases e1 : a = nI 1
  · rw [if_pos e1]
    subst e1
    exact ax_tabI (off := 31) mt122 dX11_kindTold_35 (by decide +kernel) (by decide +kernel) (by decide)
  rw [if_neg e1]
  have k1 := lv_neT e1 (show (nI 1 : Int32).toInt = 1 by decide +kernel)
  by_cases e2 : a = nI 2
  · rw [if_pos e2]
    subst e2
    exact ax_tabI (off := 39) mt122 dX11_kindTold_35 (by decide +kernel) (by decide +kernel) (by decide)
  rw [if_neg e2]
  have k2 := lv_neT e2 (show (nI 2 : Int32).toInt = 2 by decide +kernel)
  exact ax_tabO mt122 dX11_kindTold_35 (by omega) (by decide)
theorem s122_74 : aW d 122 74 [l0, .int a, l2, l3, l4] S h Q = aW d 122 75 [l0, .int a, l2, l3, l4] (.int a :: S) h Q := ax_iload_n mt122 dX11_kindTold_74 rfl
theorem s122_75 : aW (d + 1) 122 75 L (.int x0 :: []) h Q = aM d 22 [.int x0] h (fun v h1 => aW (d + 1) 122 78 L (ab_ps v []) h1 Q) := ax_invs mt122 dX11_kindTold_75 (by decide) ct_45355 (.inl rfl) mt22 ⟨⟨Nat.le_of_ble_eq_true rfl, Nat.le_of_ble_eq_true rfl, Nat.le_of_ble_eq_true rfl⟩, rfl, rfl⟩
theorem s122_78 : aW d 122 78 L (.int a :: S) h Q = (if a = 0 then aW d 122 85 L S h Q else aW d 122 81 L S h Q) := ax_if_eq mt122 dX11_kindTold_78 (by decide)
theorem s122_81 : aW d 122 81 L S h Q = aW d 122 82 L (.int (nI 1) :: S) h Q := ax_iconst mt122 dX11_kindTold_81 ic_1
theorem s122_82 : aW d 122 82 L S h Q = aW d 122 86 L S h Q := ax_goto mt122 dX11_kindTold_82 (by decide)
theorem s122_86 : aW d 122 86 L [.int a] h Q = Q (some (.int a)) h := ax_reti mt122 dX11_kindTold_86 rfl
theorem s122_85 : aW d 122 85 L S h Q = aW d 122 86 L (.int (nI 0) :: S) h Q := ax_iconst mt122 dX11_kindTold_85 ic_0
theorem s122_66 : aW d 122 66 [l0, .int a, l2, l3, l4] S h Q = aW d 122 67 [l0, .int a, l2, l3, l4] (.int a :: S) h Q := ax_iload_n mt122 dX11_kindTold_66 rfl
theorem s122_67 : aW d 122 67 [l0, l1, l2, .int a, l4] S h Q = aW d 122 68 [l0, l1, l2, .int a, l4] (.int a :: S) h Q := ax_iload_n mt122 dX11_kindTold_67 rfl
theorem s122_68 : aW d 122 68 [l0, l1, l2, l3, .int a] S h Q = aW d 122 70 [l0, l1, l2, l3, .int a] (.int a :: S) h Q := ax_iload mt122 dX11_kindTold_68 rfl
theorem s122_70 : aW (d + 1) 122 70 L (.int x2 :: .int x1 :: .int x0 :: []) h Q = aM d 24 [.int x0, .int x1, .int x2] h (fun v h1 => aW (d + 1) 122 73 L (ab_ps v []) h1 Q) := ax_invs mt122 dX11_kindTold_70 (by decide) ct_45352 (.inl rfl) mt24 ⟨⟨Nat.le_of_ble_eq_true rfl, Nat.le_of_ble_eq_true rfl, Nat.le_of_ble_eq_true rfl⟩, rfl, rfl⟩
theorem s122_73 : aW d 122 73 L [.int a] h Q = Q (some (.int a)) h := ax_reti mt122 dX11_kindTold_73 rfl
theorem s122_60 : aW d 122 60 [l0, .int a, l2, l3, l4] S h Q = aW d 122 61 [l0, .int a, l2, l3, l4] (.int a :: S) h Q := ax_iload_n mt122 dX11_kindTold_60 rfl
theorem s122_61 : aW d 122 61 [l0, l1, l2, .int a, l4] S h Q = aW d 122 62 [l0, l1, l2, .int a, l4] (.int a :: S) h Q := ax_iload_n mt122 dX11_kindTold_61 rfl
theorem s122_62 : aW (d + 1) 122 62 L (.int x1 :: .int x0 :: []) h Q = aM d 23 [.int x0, .int x1] h (fun v h1 => aW (d + 1) 122 65 L (ab_ps v []) h1 Q) := ax_invs mt122 dX11_kindTold_62 (by decide) ct_45348 (.inl rfl) mt23 ⟨⟨Nat.le_of_ble_eq_true rfl, Nat.le_of_ble_eq_true rfl, Nat.le_of_ble_eq_true rfl⟩, rfl, rfl⟩
theorem s122_65 : aW d 122 65 L [.int a] h Q = Q (some (.int a)) h := ax_reti mt122 dX11_kindTold_65 rfl
theorem s122_87 : aW d 122 87 L S h Q = aW d 122 89 L (.int ((-2)) :: S) h Q := ax_bipush mt122 dX11_kindTold_87 bp_m2
theorem s122_89 : aW d 122 89 L [.int a] h Q = Q (some (.int a)) h := ax_reti mt122 dX11_kindTold_89 rfl
theorem s122_31 : aW d 122 31 L S h Q = aW d 122 33 L (.int ((-2)) :: S) h Q := ax_bipush mt122 dX11_kindTold_31 bp_m2
theorem s122_33 : aW d 122 33 L [.int a] h Q = Q (some (.int a)) h := ax_reti mt122 dX11_kindTold_33 rfl
-- method 123: BufferRoom.count(I)I
theorem dX11_count_0 : decode cX11_count 0 = .ok (.iload_n 1, 1) := by decide +kernel
theorem dX11_count_1 : decode cX11_count 1 = .ok (.ifCond .lt 9, 3) := by decide +kernel
theorem dX11_count_4 : decode cX11_count 4 = .ok (.iload_n 1, 1) := by decide +kernel
theorem dX11_count_5 : decode cX11_count 5 = .ok (.bipush 8, 2) := by decide +kernel
theorem dX11_count_7 : decode cX11_count 7 = .ok (.if_icmp .lt 6, 3) := by decide +kernel
theorem dX11_count_10 : decode cX11_count 10 = .ok (.bipush (-2), 2) := by decide +kernel
theorem dX11_count_12 : decode cX11_count 12 = .ok (.ireturn, 1) := by decide +kernel
theorem dX11_count_13 : decode cX11_count 13 = .ok (.iload_n 1, 1) := by decide +kernel
theorem dX11_count_14 : decode cX11_count 14 = .ok (.tableswitch 67 0 3 #[30, 38, 46, 51], 30) := by decide +kernel
theorem dX11_count_44 : decode cX11_count 44 = .ok (.aload_n 0, 1) := by decide +kernel
theorem dX11_count_45 : decode cX11_count 45 = .ok (.getfield 19, 3) := by decide +kernel
theorem dX11_count_48 : decode cX11_count 48 = .ok (.getfield 103, 3) := by decide +kernel
theorem dX11_count_51 : decode cX11_count 51 = .ok (.ireturn, 1) := by decide +kernel
theorem dX11_count_52 : decode cX11_count 52 = .ok (.aload_n 0, 1) := by decide +kernel
theorem dX11_count_53 : decode cX11_count 53 = .ok (.getfield 10, 3) := by decide +kernel
theorem dX11_count_56 : decode cX11_count 56 = .ok (.getfield 88, 3) := by decide +kernel
theorem dX11_count_59 : decode cX11_count 59 = .ok (.ireturn, 1) := by decide +kernel
theorem dX11_count_60 : decode cX11_count 60 = .ok (.aload_n 0, 1) := by decide +kernel
theorem dX11_count_61 : decode cX11_count 61 = .ok (.getfield 100, 3) := by decide +kernel
theorem dX11_count_64 : decode cX11_count 64 = .ok (.ireturn, 1) := by decide +kernel
theorem dX11_count_65 : decode cX11_count 65 = .ok (.aload_n 0, 1) := by decide +kernel
theorem dX11_count_66 : decode cX11_count 66 = .ok (.getfield 32, 3) := by decide +kernel
theorem dX11_count_69 : decode cX11_count 69 = .ok (.getfield 301, 3) := by decide +kernel
theorem dX11_count_72 : decode cX11_count 72 = .ok (.ifCond .eq 7, 3) := by decide +kernel
theorem dX11_count_75 : decode cX11_count 75 = .ok (.iconst 1, 1) := by decide +kernel
theorem dX11_count_76 : decode cX11_count 76 = .ok (.goto 4, 3) := by decide +kernel
theorem dX11_count_79 : decode cX11_count 79 = .ok (.iconst 0, 1) := by decide +kernel
theorem dX11_count_80 : decode cX11_count 80 = .ok (.ireturn, 1) := by decide +kernel
theorem dX11_count_81 : decode cX11_count 81 = .ok (.aload_n 0, 1) := by decide +kernel
theorem dX11_count_82 : decode cX11_count 82 = .ok (.getfield 71, 3) := by decide +kernel
theorem dX11_count_85 : decode cX11_count 85 = .ok (.getfield 109, 3) := by decide +kernel
theorem dX11_count_88 : decode cX11_count 88 = .ok (.iload_n 1, 1) := by decide +kernel
theorem dX11_count_89 : decode cX11_count 89 = .ok (.iconst 4, 1) := by decide +kernel
theorem dX11_count_90 : decode cX11_count 90 = .ok (.isub, 1) := by decide +kernel
theorem dX11_count_91 : decode cX11_count 91 = .ok (.iaload, 1) := by decide +kernel
theorem dX11_count_92 : decode cX11_count 92 = .ok (.ireturn, 1) := by decide +kernel
theorem s123_0 : aW d 123 0 [l0, .int a] S h Q = aW d 123 1 [l0, .int a] (.int a :: S) h Q := ax_iload_n mt123 dX11_count_0 rfl
theorem s123_1 : aW d 123 1 L (.int a :: S) h Q = (if a < 0 then aW d 123 10 L S h Q else aW d 123 4 L S h Q) := ax_if_lt mt123 dX11_count_1 (by decide)
theorem s123_4 : aW d 123 4 [l0, .int a] S h Q = aW d 123 5 [l0, .int a] (.int a :: S) h Q := ax_iload_n mt123 dX11_count_4 rfl
theorem s123_5 : aW d 123 5 L S h Q = aW d 123 7 L (.int (nI 8) :: S) h Q := ax_bipush mt123 dX11_count_5 bp_8
theorem s123_7 : aW d 123 7 L (.int b :: .int a :: S) h Q = (if a < b then aW d 123 13 L S h Q else aW d 123 10 L S h Q) := ax_icmp_lt mt123 dX11_count_7 (by decide)
theorem s123_13 : aW d 123 13 [l0, .int a] S h Q = aW d 123 14 [l0, .int a] (.int a :: S) h Q := ax_iload_n mt123 dX11_count_13 rfl
set_option maxRecDepth 100000 in
theorem s123_14 : aW d 123 14 L (.int a :: S) h Q = (if a = nI 0 then aW d 123 44 L S h Q else (if a = nI 1 then aW d 123 52 L S h Q else (if a = nI 2 then aW d 123 60 L S h Q else (if a = nI 3 then aW d 123 65 L S h Q else aW d 123 81 L S h Q)))) := by
  by_cases e0 : a = nI 0
  · rw [if_pos e0]
    subst e0
    exact ax_tabI (off := 30) mt123 dX11_count_14 (by decide +kernel) (by decide +kernel) (by decide)
  rw [if_neg e0]
  have k0 := lv_neT e0 (show (nI 0 : Int32).toInt = 0 by decide +kernel)
  by_cases e1 : a = nI 1
  · rw [if_pos e1]
    subst e1
    exact ax_tabI (off := 38) mt123 dX11_count_14 (by decide +kernel) (by decide +kernel) (by decide)
  rw [if_neg e1]
  have k1 := lv_neT e1 (show (nI 1 : Int32).toInt = 1 by decide +kernel)
  by_cases e2 : a = nI 2
  · rw [if_pos e2]
    subst e2
    exact ax_tabI (off := 46) mt123 dX11_count_14 (by decide +kernel) (by decide +kernel) (by decide)
  rw [if_neg e2]
  have k2 := lv_neT e2 (show (nI 2 : Int32).toInt = 2 by decide +kernel)
  by_cases e3 : a = nI 3
  · rw [if_pos e3]
    subst e3
    exact ax_tabI (off := 51) mt123 dX11_count_14 (by decide +kernel) (by decide +kernel) (by decide)
  rw [if_neg e3]
  have k3 := lv_neT e3 (show (nI 3 : Int32).toInt = 3 by decide +kernel)
  exact ax_tabO mt123 dX11_count_14 (by omega) (by decide)
theorem s123_65 : aW d 123 65 [.ref o, l1] S h Q = aW d 123 66 [.ref o, l1] (.ref o :: S) h Q := ax_aload_n mt123 dX11_count_65 rfl
theorem s123_66 (hT : gT h o = some (13, 14)) : aW d 123 66 L (.ref o :: S) h Q = (isRf (gR h o 3) = true ∧ aW d 123 69 L (gR h o 3 :: S) h Q) := ax_geta mt123 dX11_count_66 (by decide) ft_45088 fk_45088 hT
theorem s123_69 (hT : gT h o = some (12, 9)) : aW d 123 69 L (.ref o :: S) h Q = aW d 123 72 L (.int (gI h o 2) :: S) h Q := ax_geti mt123 dX11_count_69 (by decide) ft_45357 fk_45357 hT
theorem s123_72 : aW d 123 72 L (.int a :: S) h Q = (if a = 0 then aW d 123 79 L S h Q else aW d 123 75 L S h Q) := ax_if_eq mt123 dX11_count_72 (by decide)
theorem s123_75 : aW d 123 75 L S h Q = aW d 123 76 L (.int (nI 1) :: S) h Q := ax_iconst mt123 dX11_count_75 ic_1
theorem s123_76 : aW d 123 76 L S h Q = aW d 123 80 L S h Q := ax_goto mt123 dX11_count_76 (by decide)
theorem s123_80 : aW d 123 80 L [.int a] h Q = Q (some (.int a)) h := ax_reti mt123 dX11_count_80 rfl
theorem s123_79 : aW d 123 79 L S h Q = aW d 123 80 L (.int (nI 0) :: S) h Q := ax_iconst mt123 dX11_count_79 ic_0
theorem s123_60 : aW d 123 60 [.ref o, l1] S h Q = aW d 123 61 [.ref o, l1] (.ref o :: S) h Q := ax_aload_n mt123 dX11_count_60 rfl
theorem s123_61 (hT : gT h o = some (13, 14)) : aW d 123 61 L (.ref o :: S) h Q = aW d 123 64 L (.int (gI h o 13) :: S) h Q := ax_geti mt123 dX11_count_61 (by decide) ft_45156 fk_45156 hT
theorem s123_64 : aW d 123 64 L [.int a] h Q = Q (some (.int a)) h := ax_reti mt123 dX11_count_64 rfl
theorem s123_52 : aW d 123 52 [.ref o, l1] S h Q = aW d 123 53 [.ref o, l1] (.ref o :: S) h Q := ax_aload_n mt123 dX11_count_52 rfl
theorem s123_53 (hT : gT h o = some (13, 14)) : aW d 123 53 L (.ref o :: S) h Q = (isRf (gR h o 0) = true ∧ aW d 123 56 L (gR h o 0 :: S) h Q) := ax_geta mt123 dX11_count_53 (by decide) ft_45066 fk_45066 hT
theorem s123_56 (hT : gT h o = some (9, 5)) : aW d 123 56 L (.ref o :: S) h Q = aW d 123 59 L (.int (gI h o 1) :: S) h Q := ax_geti mt123 dX11_count_56 (by decide) ft_45144 fk_45144 hT
theorem s123_59 : aW d 123 59 L [.int a] h Q = Q (some (.int a)) h := ax_reti mt123 dX11_count_59 rfl
theorem s123_44 : aW d 123 44 [.ref o, l1] S h Q = aW d 123 45 [.ref o, l1] (.ref o :: S) h Q := ax_aload_n mt123 dX11_count_44 rfl
theorem s123_45 (hT : gT h o = some (13, 14)) : aW d 123 45 L (.ref o :: S) h Q = (isRf (gR h o 1) = true ∧ aW d 123 48 L (gR h o 1 :: S) h Q) := ax_geta mt123 dX11_count_45 (by decide) ft_45075 fk_45075 hT
theorem s123_48 (hT : gT h o = some (8, 12)) : aW d 123 48 L (.ref o :: S) h Q = aW d 123 51 L (.int (gI h o 6) :: S) h Q := ax_geti mt123 dX11_count_48 (by decide) ft_45159 fk_45159 hT
theorem s123_51 : aW d 123 51 L [.int a] h Q = Q (some (.int a)) h := ax_reti mt123 dX11_count_51 rfl
theorem s123_81 : aW d 123 81 [.ref o, l1] S h Q = aW d 123 82 [.ref o, l1] (.ref o :: S) h Q := ax_aload_n mt123 dX11_count_81 rfl
theorem s123_82 (hT : gT h o = some (13, 14)) : aW d 123 82 L (.ref o :: S) h Q = (isRf (gR h o 9) = true ∧ aW d 123 85 L (gR h o 9 :: S) h Q) := ax_geta mt123 dX11_count_82 (by decide) ft_45127 fk_45127 hT
theorem s123_85 (hT : gT h o = some (3, 5)) : aW d 123 85 L (.ref o :: S) h Q = (isRf (gR h o 4) = true ∧ aW d 123 88 L (gR h o 4 :: S) h Q) := ax_geta mt123 dX11_count_85 (by decide) ft_45165 fk_45165 hT
theorem s123_88 : aW d 123 88 [l0, .int a] S h Q = aW d 123 89 [l0, .int a] (.int a :: S) h Q := ax_iload_n mt123 dX11_count_88 rfl
theorem s123_89 : aW d 123 89 L S h Q = aW d 123 90 L (.int (nI 4) :: S) h Q := ax_iconst mt123 dX11_count_89 ic_4
theorem s123_90 : aW d 123 90 L (.int b :: .int a :: S) h Q = aW d 123 91 L (.int (a - b) :: S) h Q := ax_isub mt123 dX11_count_90
theorem s123_91 : aW d 123 91 L (.int a :: .ref o :: S) h Q = (inb a (aI h o) ∧ aW d 123 92 L (.int (gI h o a.toNatClampNeg) :: S) h Q) := ax_iald mt123 dX11_count_91
theorem s123_92 : aW d 123 92 L [.int a] h Q = Q (some (.int a)) h := ax_reti mt123 dX11_count_92 rfl
theorem s123_10 : aW d 123 10 L S h Q = aW d 123 12 L (.int ((-2)) :: S) h Q := ax_bipush mt123 dX11_count_10 bp_m2
theorem s123_12 : aW d 123 12 L [.int a] h Q = Q (some (.int a)) h := ax_reti mt123 dX11_count_12 rfl
-- method 124: BufferRoom.sheet(III)I
theorem dX11_sheet_0 : decode cX11_sheet 0 = .ok (.iload_n 1, 1) := by decide +kernel
theorem dX11_sheet_1 : decode cX11_sheet 1 = .ok (.invokestatic 115, 3) := by decide +kernel
theorem dX11_sheet_4 : decode cX11_sheet 4 = .ok (.ifCond .eq 15, 3) := by decide +kernel
theorem dX11_sheet_7 : decode cX11_sheet 7 = .ok (.iload_n 2, 1) := by decide +kernel
theorem dX11_sheet_8 : decode cX11_sheet 8 = .ok (.iconst (-1), 1) := by decide +kernel
theorem dX11_sheet_9 : decode cX11_sheet 9 = .ok (.if_icmp .eq 13, 3) := by decide +kernel
theorem dX11_sheet_12 : decode cX11_sheet 12 = .ok (.iload_n 2, 1) := by decide +kernel
theorem dX11_sheet_13 : decode cX11_sheet 13 = .ok (.invokestatic 304, 3) := by decide +kernel
theorem dX11_sheet_16 : decode cX11_sheet 16 = .ok (.ifCond .ne 6, 3) := by decide +kernel
theorem dX11_sheet_19 : decode cX11_sheet 19 = .ok (.bipush (-2), 2) := by decide +kernel
theorem dX11_sheet_21 : decode cX11_sheet 21 = .ok (.ireturn, 1) := by decide +kernel
theorem dX11_sheet_22 : decode cX11_sheet 22 = .ok (.iload_n 2, 1) := by decide +kernel
theorem dX11_sheet_23 : decode cX11_sheet 23 = .ok (.iconst (-1), 1) := by decide +kernel
theorem dX11_sheet_24 : decode cX11_sheet 24 = .ok (.if_icmp .ne 16, 3) := by decide +kernel
theorem dX11_sheet_27 : decode cX11_sheet 27 = .ok (.aload_n 0, 1) := by decide +kernel
theorem dX11_sheet_28 : decode cX11_sheet 28 = .ok (.getfield 80, 3) := by decide +kernel
theorem dX11_sheet_31 : decode cX11_sheet 31 = .ok (.iload_n 1, 1) := by decide +kernel
theorem dX11_sheet_32 : decode cX11_sheet 32 = .ok (.aaload, 1) := by decide +kernel
theorem dX11_sheet_33 : decode cX11_sheet 33 = .ok (.iconst (-1), 1) := by decide +kernel
theorem dX11_sheet_34 : decode cX11_sheet 34 = .ok (.iconst 0, 1) := by decide +kernel
theorem dX11_sheet_35 : decode cX11_sheet 35 = .ok (.invokevirtual 307, 3) := by decide +kernel
theorem dX11_sheet_38 : decode cX11_sheet 38 = .ok (.iconst 1, 1) := by decide +kernel
theorem dX11_sheet_39 : decode cX11_sheet 39 = .ok (.ireturn, 1) := by decide +kernel
theorem dX11_sheet_40 : decode cX11_sheet 40 = .ok (.iload_n 3, 1) := by decide +kernel
theorem dX11_sheet_41 : decode cX11_sheet 41 = .ok (.bipush 40, 2) := by decide +kernel
theorem dX11_sheet_43 : decode cX11_sheet 43 = .ok (.if_icmp .le 6, 3) := by decide +kernel
theorem dX11_sheet_46 : decode cX11_sheet 46 = .ok (.bipush (-2), 2) := by decide +kernel
theorem dX11_sheet_48 : decode cX11_sheet 48 = .ok (.ireturn, 1) := by decide +kernel
theorem dX11_sheet_49 : decode cX11_sheet 49 = .ok (.iload_n 3, 1) := by decide +kernel
theorem dX11_sheet_50 : decode cX11_sheet 50 = .ok (.ifCond .ge 6, 3) := by decide +kernel
theorem dX11_sheet_53 : decode cX11_sheet 53 = .ok (.bipush (-14), 2) := by decide +kernel
theorem dX11_sheet_55 : decode cX11_sheet 55 = .ok (.ireturn, 1) := by decide +kernel
theorem dX11_sheet_56 : decode cX11_sheet 56 = .ok (.aload_n 0, 1) := by decide +kernel
theorem dX11_sheet_57 : decode cX11_sheet 57 = .ok (.getfield 80, 3) := by decide +kernel
theorem dX11_sheet_60 : decode cX11_sheet 60 = .ok (.iload_n 1, 1) := by decide +kernel
theorem dX11_sheet_61 : decode cX11_sheet 61 = .ok (.aaload, 1) := by decide +kernel
theorem dX11_sheet_62 : decode cX11_sheet 62 = .ok (.iload_n 2, 1) := by decide +kernel
theorem dX11_sheet_63 : decode cX11_sheet 63 = .ok (.iload_n 3, 1) := by decide +kernel
theorem dX11_sheet_64 : decode cX11_sheet 64 = .ok (.invokevirtual 307, 3) := by decide +kernel
theorem dX11_sheet_67 : decode cX11_sheet 67 = .ok (.iconst 1, 1) := by decide +kernel
theorem dX11_sheet_68 : decode cX11_sheet 68 = .ok (.ireturn, 1) := by decide +kernel
theorem s124_0 : aW d 124 0 [l0, .int a, l2, l3] S h Q = aW d 124 1 [l0, .int a, l2, l3] (.int a :: S) h Q := ax_iload_n mt124 dX11_sheet_0 rfl
theorem s124_1 : aW (d + 1) 124 1 L (.int x0 :: []) h Q = aM d 129 [.int x0] h (fun v h1 => aW (d + 1) 124 4 L (ab_ps v []) h1 Q) := ax_invs mt124 dX11_sheet_1 (by decide) ct_45171 (.inl rfl) mt129 ⟨⟨Nat.le_of_ble_eq_true rfl, Nat.le_of_ble_eq_true rfl, Nat.le_of_ble_eq_true rfl⟩, rfl, rfl⟩
theorem s124_4 : aW d 124 4 L (.int a :: S) h Q = (if a = 0 then aW d 124 19 L S h Q else aW d 124 7 L S h Q) := ax_if_eq mt124 dX11_sheet_4 (by decide)
theorem s124_7 : aW d 124 7 [l0, l1, .int a, l3] S h Q = aW d 124 8 [l0, l1, .int a, l3] (.int a :: S) h Q := ax_iload_n mt124 dX11_sheet_7 rfl
theorem s124_8 : aW d 124 8 L S h Q = aW d 124 9 L (.int ((-1)) :: S) h Q := ax_iconst mt124 dX11_sheet_8 ic_m1
theorem s124_9 : aW d 124 9 L (.int b :: .int a :: S) h Q = (if a = b then aW d 124 22 L S h Q else aW d 124 12 L S h Q) := ax_icmp_eq mt124 dX11_sheet_9 (by decide)
theorem s124_12 : aW d 124 12 [l0, l1, .int a, l3] S h Q = aW d 124 13 [l0, l1, .int a, l3] (.int a :: S) h Q := ax_iload_n mt124 dX11_sheet_12 rfl
theorem s124_13 : aW (d + 1) 124 13 L (.int x0 :: []) h Q = aM d 130 [.int x0] h (fun v h1 => aW (d + 1) 124 16 L (ab_ps v []) h1 Q) := ax_invs mt124 dX11_sheet_13 (by decide) ct_45360 (.inl rfl) mt130 ⟨⟨Nat.le_of_ble_eq_true rfl, Nat.le_of_ble_eq_true rfl, Nat.le_of_ble_eq_true rfl⟩, rfl, rfl⟩
theorem s124_16 : aW d 124 16 L (.int a :: S) h Q = (if a = 0 then aW d 124 19 L S h Q else aW d 124 22 L S h Q) := ax_if_ne mt124 dX11_sheet_16 (by decide)
theorem s124_22 : aW d 124 22 [l0, l1, .int a, l3] S h Q = aW d 124 23 [l0, l1, .int a, l3] (.int a :: S) h Q := ax_iload_n mt124 dX11_sheet_22 rfl
theorem s124_23 : aW d 124 23 L S h Q = aW d 124 24 L (.int ((-1)) :: S) h Q := ax_iconst mt124 dX11_sheet_23 ic_m1
theorem s124_24 : aW d 124 24 L (.int b :: .int a :: S) h Q = (if a = b then aW d 124 27 L S h Q else aW d 124 40 L S h Q) := ax_icmp_ne mt124 dX11_sheet_24 (by decide)
theorem s124_27 : aW d 124 27 [.ref o, l1, l2, l3] S h Q = aW d 124 28 [.ref o, l1, l2, l3] (.ref o :: S) h Q := ax_aload_n mt124 dX11_sheet_27 rfl
theorem s124_28 (hT : gT h o = some (13, 14)) : aW d 124 28 L (.ref o :: S) h Q = (isRf (gR h o 12) = true ∧ aW d 124 31 L (gR h o 12 :: S) h Q) := ax_geta mt124 dX11_sheet_28 (by decide) ft_45136 fk_45136 hT
theorem s124_31 : aW d 124 31 [l0, .int a, l2, l3] S h Q = aW d 124 32 [l0, .int a, l2, l3] (.int a :: S) h Q := ax_iload_n mt124 dX11_sheet_31 rfl
theorem s124_32 : aW d 124 32 L (.int a :: .ref o :: S) h Q = ((inb a (aQ h o) ∧ isRf (gR h o a.toNatClampNeg) = true) ∧ aW d 124 33 L (gR h o a.toNatClampNeg :: S) h Q) := ax_aald mt124 dX11_sheet_32
theorem s124_33 : aW d 124 33 L S h Q = aW d 124 34 L (.int ((-1)) :: S) h Q := ax_iconst mt124 dX11_sheet_33 ic_m1
theorem s124_34 : aW d 124 34 L S h Q = aW d 124 35 L (.int (nI 0) :: S) h Q := ax_iconst mt124 dX11_sheet_34 ic_0
theorem s124_35 (hT : gT h o = some (11, 3)) : aW (d + 1) 124 35 L (.int x1 :: .int x0 :: .ref o :: []) h Q = aM d 78 (.ref o :: [.int x0, .int x1]) h (fun v h1 => aW (d + 1) 124 38 L (ab_ps v []) h1 Q) := ax_invv mt124 dX11_sheet_35 (by decide) ct_45363 (.inl rfl) mt78 ⟨⟨Nat.le_of_ble_eq_true rfl, Nat.le_of_ble_eq_true rfl, Nat.le_of_ble_eq_true rfl⟩, rfl, rfl, rfl⟩ hT
theorem s124_38 : aW d 124 38 L S h Q = aW d 124 39 L (.int (nI 1) :: S) h Q := ax_iconst mt124 dX11_sheet_38 ic_1
theorem s124_39 : aW d 124 39 L [.int a] h Q = Q (some (.int a)) h := ax_reti mt124 dX11_sheet_39 rfl
theorem s124_40 : aW d 124 40 [l0, l1, l2, .int a] S h Q = aW d 124 41 [l0, l1, l2, .int a] (.int a :: S) h Q := ax_iload_n mt124 dX11_sheet_40 rfl
theorem s124_41 : aW d 124 41 L S h Q = aW d 124 43 L (.int (nI 40) :: S) h Q := ax_bipush mt124 dX11_sheet_41 bp_40
theorem s124_43 : aW d 124 43 L (.int b :: .int a :: S) h Q = (if b < a then aW d 124 46 L S h Q else aW d 124 49 L S h Q) := ax_icmp_le mt124 dX11_sheet_43 (by decide)
theorem s124_46 : aW d 124 46 L S h Q = aW d 124 48 L (.int ((-2)) :: S) h Q := ax_bipush mt124 dX11_sheet_46 bp_m2
theorem s124_48 : aW d 124 48 L [.int a] h Q = Q (some (.int a)) h := ax_reti mt124 dX11_sheet_48 rfl
theorem s124_49 : aW d 124 49 [l0, l1, l2, .int a] S h Q = aW d 124 50 [l0, l1, l2, .int a] (.int a :: S) h Q := ax_iload_n mt124 dX11_sheet_49 rfl
theorem s124_50 : aW d 124 50 L (.int a :: S) h Q = (if a < 0 then aW d 124 53 L S h Q else aW d 124 56 L S h Q) := ax_if_ge mt124 dX11_sheet_50 (by decide)
theorem s124_53 : aW d 124 53 L S h Q = aW d 124 55 L (.int ((-14)) :: S) h Q := ax_bipush mt124 dX11_sheet_53 bp_m14
theorem s124_55 : aW d 124 55 L [.int a] h Q = Q (some (.int a)) h := ax_reti mt124 dX11_sheet_55 rfl
theorem s124_56 : aW d 124 56 [.ref o, l1, l2, l3] S h Q = aW d 124 57 [.ref o, l1, l2, l3] (.ref o :: S) h Q := ax_aload_n mt124 dX11_sheet_56 rfl
theorem s124_57 (hT : gT h o = some (13, 14)) : aW d 124 57 L (.ref o :: S) h Q = (isRf (gR h o 12) = true ∧ aW d 124 60 L (gR h o 12 :: S) h Q) := ax_geta mt124 dX11_sheet_57 (by decide) ft_45136 fk_45136 hT
theorem s124_60 : aW d 124 60 [l0, .int a, l2, l3] S h Q = aW d 124 61 [l0, .int a, l2, l3] (.int a :: S) h Q := ax_iload_n mt124 dX11_sheet_60 rfl
theorem s124_61 : aW d 124 61 L (.int a :: .ref o :: S) h Q = ((inb a (aQ h o) ∧ isRf (gR h o a.toNatClampNeg) = true) ∧ aW d 124 62 L (gR h o a.toNatClampNeg :: S) h Q) := ax_aald mt124 dX11_sheet_61
theorem s124_62 : aW d 124 62 [l0, l1, .int a, l3] S h Q = aW d 124 63 [l0, l1, .int a, l3] (.int a :: S) h Q := ax_iload_n mt124 dX11_sheet_62 rfl
theorem s124_63 : aW d 124 63 [l0, l1, l2, .int a] S h Q = aW d 124 64 [l0, l1, l2, .int a] (.int a :: S) h Q := ax_iload_n mt124 dX11_sheet_63 rfl
theorem s124_64 (hT : gT h o = some (11, 3)) : aW (d + 1) 124 64 L (.int x1 :: .int x0 :: .ref o :: []) h Q = aM d 78 (.ref o :: [.int x0, .int x1]) h (fun v h1 => aW (d + 1) 124 67 L (ab_ps v []) h1 Q) := ax_invv mt124 dX11_sheet_64 (by decide) ct_45363 (.inl rfl) mt78 ⟨⟨Nat.le_of_ble_eq_true rfl, Nat.le_of_ble_eq_true rfl, Nat.le_of_ble_eq_true rfl⟩, rfl, rfl, rfl⟩ hT
theorem s124_67 : aW d 124 67 L S h Q = aW d 124 68 L (.int (nI 1) :: S) h Q := ax_iconst mt124 dX11_sheet_67 ic_1
theorem s124_68 : aW d 124 68 L [.int a] h Q = Q (some (.int a)) h := ax_reti mt124 dX11_sheet_68 rfl
theorem s124_19 : aW d 124 19 L S h Q = aW d 124 21 L (.int ((-2)) :: S) h Q := ax_bipush mt124 dX11_sheet_19 bp_m2
theorem s124_21 : aW d 124 21 L [.int a] h Q = Q (some (.int a)) h := ax_reti mt124 dX11_sheet_21 rfl
-- method 125: BufferRoom.cell(III)I
theorem dX11_cell_0 : decode cX11_cell 0 = .ok (.iload_n 1, 1) := by decide +kernel
theorem dX11_cell_1 : decode cX11_cell 1 = .ok (.invokestatic 115, 3) := by decide +kernel
theorem dX11_cell_4 : decode cX11_cell 4 = .ok (.ifCond .ne 6, 3) := by decide +kernel
theorem dX11_cell_7 : decode cX11_cell 7 = .ok (.bipush (-2), 2) := by decide +kernel
theorem dX11_cell_9 : decode cX11_cell 9 = .ok (.ireturn, 1) := by decide +kernel
theorem dX11_cell_10 : decode cX11_cell 10 = .ok (.aload_n 0, 1) := by decide +kernel
theorem dX11_cell_11 : decode cX11_cell 11 = .ok (.getfield 80, 3) := by decide +kernel
theorem dX11_cell_14 : decode cX11_cell 14 = .ok (.iload_n 1, 1) := by decide +kernel
theorem dX11_cell_15 : decode cX11_cell 15 = .ok (.aaload, 1) := by decide +kernel
theorem dX11_cell_16 : decode cX11_cell 16 = .ok (.getfield 119, 3) := by decide +kernel
theorem dX11_cell_19 : decode cX11_cell 19 = .ok (.iconst (-1), 1) := by decide +kernel
theorem dX11_cell_20 : decode cX11_cell 20 = .ok (.if_icmp .ne 6, 3) := by decide +kernel
theorem dX11_cell_23 : decode cX11_cell 23 = .ok (.bipush (-11), 2) := by decide +kernel
theorem dX11_cell_25 : decode cX11_cell 25 = .ok (.ireturn, 1) := by decide +kernel
theorem dX11_cell_26 : decode cX11_cell 26 = .ok (.aload_n 0, 1) := by decide +kernel
theorem dX11_cell_27 : decode cX11_cell 27 = .ok (.getfield 80, 3) := by decide +kernel
theorem dX11_cell_30 : decode cX11_cell 30 = .ok (.iload_n 1, 1) := by decide +kernel
theorem dX11_cell_31 : decode cX11_cell 31 = .ok (.aaload, 1) := by decide +kernel
theorem dX11_cell_32 : decode cX11_cell 32 = .ok (.iload_n 2, 1) := by decide +kernel
theorem dX11_cell_33 : decode cX11_cell 33 = .ok (.iconst 1, 1) := by decide +kernel
theorem dX11_cell_34 : decode cX11_cell 34 = .ok (.invokevirtual 311, 3) := by decide +kernel
theorem dX11_cell_37 : decode cX11_cell 37 = .ok (.ifCond .ne 6, 3) := by decide +kernel
theorem dX11_cell_40 : decode cX11_cell 40 = .ok (.bipush (-12), 2) := by decide +kernel
theorem dX11_cell_42 : decode cX11_cell 42 = .ok (.ireturn, 1) := by decide +kernel
theorem dX11_cell_43 : decode cX11_cell 43 = .ok (.aload_n 0, 1) := by decide +kernel
theorem dX11_cell_44 : decode cX11_cell 44 = .ok (.getfield 80, 3) := by decide +kernel
theorem dX11_cell_47 : decode cX11_cell 47 = .ok (.iload_n 1, 1) := by decide +kernel
theorem dX11_cell_48 : decode cX11_cell 48 = .ok (.aaload, 1) := by decide +kernel
theorem dX11_cell_49 : decode cX11_cell 49 = .ok (.iload_n 2, 1) := by decide +kernel
theorem dX11_cell_50 : decode cX11_cell 50 = .ok (.iload_n 3, 1) := by decide +kernel
theorem dX11_cell_51 : decode cX11_cell 51 = .ok (.invokevirtual 314, 3) := by decide +kernel
theorem dX11_cell_54 : decode cX11_cell 54 = .ok (.iconst 1, 1) := by decide +kernel
theorem dX11_cell_55 : decode cX11_cell 55 = .ok (.ireturn, 1) := by decide +kernel
theorem s125_0 : aW d 125 0 [l0, .int a, l2, l3] S h Q = aW d 125 1 [l0, .int a, l2, l3] (.int a :: S) h Q := ax_iload_n mt125 dX11_cell_0 rfl
theorem s125_1 : aW (d + 1) 125 1 L (.int x0 :: []) h Q = aM d 129 [.int x0] h (fun v h1 => aW (d + 1) 125 4 L (ab_ps v []) h1 Q) := ax_invs mt125 dX11_cell_1 (by decide) ct_45171 (.inl rfl) mt129 ⟨⟨Nat.le_of_ble_eq_true rfl, Nat.le_of_ble_eq_true rfl, Nat.le_of_ble_eq_true rfl⟩, rfl, rfl⟩
theorem s125_4 : aW d 125 4 L (.int a :: S) h Q = (if a = 0 then aW d 125 7 L S h Q else aW d 125 10 L S h Q) := ax_if_ne mt125 dX11_cell_4 (by decide)
theorem s125_7 : aW d 125 7 L S h Q = aW d 125 9 L (.int ((-2)) :: S) h Q := ax_bipush mt125 dX11_cell_7 bp_m2
theorem s125_9 : aW d 125 9 L [.int a] h Q = Q (some (.int a)) h := ax_reti mt125 dX11_cell_9 rfl
theorem s125_10 : aW d 125 10 [.ref o, l1, l2, l3] S h Q = aW d 125 11 [.ref o, l1, l2, l3] (.ref o :: S) h Q := ax_aload_n mt125 dX11_cell_10 rfl
theorem s125_11 (hT : gT h o = some (13, 14)) : aW d 125 11 L (.ref o :: S) h Q = (isRf (gR h o 12) = true ∧ aW d 125 14 L (gR h o 12 :: S) h Q) := ax_geta mt125 dX11_cell_11 (by decide) ft_45136 fk_45136 hT
theorem s125_14 : aW d 125 14 [l0, .int a, l2, l3] S h Q = aW d 125 15 [l0, .int a, l2, l3] (.int a :: S) h Q := ax_iload_n mt125 dX11_cell_14 rfl
theorem s125_15 : aW d 125 15 L (.int a :: .ref o :: S) h Q = ((inb a (aQ h o) ∧ isRf (gR h o a.toNatClampNeg) = true) ∧ aW d 125 16 L (gR h o a.toNatClampNeg :: S) h Q) := ax_aald mt125 dX11_cell_15
theorem s125_16 (hT : gT h o = some (11, 3)) : aW d 125 16 L (.ref o :: S) h Q = aW d 125 19 L (.int (gI h o 0) :: S) h Q := ax_geti mt125 dX11_cell_16 (by decide) ft_45175 fk_45175 hT
theorem s125_19 : aW d 125 19 L S h Q = aW d 125 20 L (.int ((-1)) :: S) h Q := ax_iconst mt125 dX11_cell_19 ic_m1
theorem s125_20 : aW d 125 20 L (.int b :: .int a :: S) h Q = (if a = b then aW d 125 23 L S h Q else aW d 125 26 L S h Q) := ax_icmp_ne mt125 dX11_cell_20 (by decide)
theorem s125_23 : aW d 125 23 L S h Q = aW d 125 25 L (.int ((-11)) :: S) h Q := ax_bipush mt125 dX11_cell_23 bp_m11
theorem s125_25 : aW d 125 25 L [.int a] h Q = Q (some (.int a)) h := ax_reti mt125 dX11_cell_25 rfl
theorem s125_26 : aW d 125 26 [.ref o, l1, l2, l3] S h Q = aW d 125 27 [.ref o, l1, l2, l3] (.ref o :: S) h Q := ax_aload_n mt125 dX11_cell_26 rfl
theorem s125_27 (hT : gT h o = some (13, 14)) : aW d 125 27 L (.ref o :: S) h Q = (isRf (gR h o 12) = true ∧ aW d 125 30 L (gR h o 12 :: S) h Q) := ax_geta mt125 dX11_cell_27 (by decide) ft_45136 fk_45136 hT
theorem s125_30 : aW d 125 30 [l0, .int a, l2, l3] S h Q = aW d 125 31 [l0, .int a, l2, l3] (.int a :: S) h Q := ax_iload_n mt125 dX11_cell_30 rfl
theorem s125_31 : aW d 125 31 L (.int a :: .ref o :: S) h Q = ((inb a (aQ h o) ∧ isRf (gR h o a.toNatClampNeg) = true) ∧ aW d 125 32 L (gR h o a.toNatClampNeg :: S) h Q) := ax_aald mt125 dX11_cell_31
theorem s125_32 : aW d 125 32 [l0, l1, .int a, l3] S h Q = aW d 125 33 [l0, l1, .int a, l3] (.int a :: S) h Q := ax_iload_n mt125 dX11_cell_32 rfl
theorem s125_33 : aW d 125 33 L S h Q = aW d 125 34 L (.int (nI 1) :: S) h Q := ax_iconst mt125 dX11_cell_33 ic_1
theorem s125_34 (hT : gT h o = some (11, 3)) : aW (d + 1) 125 34 L (.int x1 :: .int x0 :: .ref o :: []) h Q = aM d 80 (.ref o :: [.int x0, .int x1]) h (fun v h1 => aW (d + 1) 125 37 L (ab_ps v []) h1 Q) := ax_invv mt125 dX11_cell_34 (by decide) ct_45367 (.inl rfl) mt80 ⟨⟨Nat.le_of_ble_eq_true rfl, Nat.le_of_ble_eq_true rfl, Nat.le_of_ble_eq_true rfl⟩, rfl, rfl, rfl⟩ hT
theorem s125_37 : aW d 125 37 L (.int a :: S) h Q = (if a = 0 then aW d 125 40 L S h Q else aW d 125 43 L S h Q) := ax_if_ne mt125 dX11_cell_37 (by decide)
theorem s125_40 : aW d 125 40 L S h Q = aW d 125 42 L (.int ((-12)) :: S) h Q := ax_bipush mt125 dX11_cell_40 bp_m12
theorem s125_42 : aW d 125 42 L [.int a] h Q = Q (some (.int a)) h := ax_reti mt125 dX11_cell_42 rfl
theorem s125_43 : aW d 125 43 [.ref o, l1, l2, l3] S h Q = aW d 125 44 [.ref o, l1, l2, l3] (.ref o :: S) h Q := ax_aload_n mt125 dX11_cell_43 rfl
theorem s125_44 (hT : gT h o = some (13, 14)) : aW d 125 44 L (.ref o :: S) h Q = (isRf (gR h o 12) = true ∧ aW d 125 47 L (gR h o 12 :: S) h Q) := ax_geta mt125 dX11_cell_44 (by decide) ft_45136 fk_45136 hT
theorem s125_47 : aW d 125 47 [l0, .int a, l2, l3] S h Q = aW d 125 48 [l0, .int a, l2, l3] (.int a :: S) h Q := ax_iload_n mt125 dX11_cell_47 rfl
theorem s125_48 : aW d 125 48 L (.int a :: .ref o :: S) h Q = ((inb a (aQ h o) ∧ isRf (gR h o a.toNatClampNeg) = true) ∧ aW d 125 49 L (gR h o a.toNatClampNeg :: S) h Q) := ax_aald mt125 dX11_cell_48
theorem s125_49 : aW d 125 49 [l0, l1, .int a, l3] S h Q = aW d 125 50 [l0, l1, .int a, l3] (.int a :: S) h Q := ax_iload_n mt125 dX11_cell_49 rfl
theorem s125_50 : aW d 125 50 [l0, l1, l2, .int a] S h Q = aW d 125 51 [l0, l1, l2, .int a] (.int a :: S) h Q := ax_iload_n mt125 dX11_cell_50 rfl
theorem s125_51 (hT : gT h o = some (11, 3)) : aW (d + 1) 125 51 L (.int x1 :: .int x0 :: .ref o :: []) h Q = aM d 79 (.ref o :: [.int x0, .int x1]) h (fun v h1 => aW (d + 1) 125 54 L (ab_ps v []) h1 Q) := ax_invv mt125 dX11_cell_51 (by decide) ct_45370 (.inl rfl) mt79 ⟨⟨Nat.le_of_ble_eq_true rfl, Nat.le_of_ble_eq_true rfl, Nat.le_of_ble_eq_true rfl⟩, rfl, rfl, rfl⟩ hT
theorem s125_54 : aW d 125 54 L S h Q = aW d 125 55 L (.int (nI 1) :: S) h Q := ax_iconst mt125 dX11_cell_54 ic_1
theorem s125_55 : aW d 125 55 L [.int a] h Q = Q (some (.int a)) h := ax_reti mt125 dX11_cell_55 rfl
-- method 126: BufferRoom.copy(IIIII)I
theorem dX11_copy_0 : decode cX11_copy 0 = .ok (.iload_n 1, 1) := by decide +kernel
theorem dX11_copy_1 : decode cX11_copy 1 = .ok (.invokestatic 115, 3) := by decide +kernel
theorem dX11_copy_4 : decode cX11_copy 4 = .ok (.ifCond .eq 10, 3) := by decide +kernel
theorem dX11_copy_7 : decode cX11_copy 7 = .ok (.iload_n 3, 1) := by decide +kernel
theorem dX11_copy_8 : decode cX11_copy 8 = .ok (.invokestatic 115, 3) := by decide +kernel
theorem dX11_copy_11 : decode cX11_copy 11 = .ok (.ifCond .ne 6, 3) := by decide +kernel
theorem dX11_copy_14 : decode cX11_copy 14 = .ok (.bipush (-2), 2) := by decide +kernel
theorem dX11_copy_16 : decode cX11_copy 16 = .ok (.ireturn, 1) := by decide +kernel
theorem dX11_copy_17 : decode cX11_copy 17 = .ok (.aload_n 0, 1) := by decide +kernel
theorem dX11_copy_18 : decode cX11_copy 18 = .ok (.getfield 80, 3) := by decide +kernel
theorem dX11_copy_21 : decode cX11_copy 21 = .ok (.iload_n 1, 1) := by decide +kernel
theorem dX11_copy_22 : decode cX11_copy 22 = .ok (.aaload, 1) := by decide +kernel
theorem dX11_copy_23 : decode cX11_copy 23 = .ok (.astore 6, 2) := by decide +kernel
theorem dX11_copy_25 : decode cX11_copy 25 = .ok (.aload_n 0, 1) := by decide +kernel
theorem dX11_copy_26 : decode cX11_copy 26 = .ok (.getfield 80, 3) := by decide +kernel
theorem dX11_copy_29 : decode cX11_copy 29 = .ok (.iload_n 3, 1) := by decide +kernel
theorem dX11_copy_30 : decode cX11_copy 30 = .ok (.aaload, 1) := by decide +kernel
theorem dX11_copy_31 : decode cX11_copy 31 = .ok (.astore 7, 2) := by decide +kernel
theorem dX11_copy_33 : decode cX11_copy 33 = .ok (.aload 6, 2) := by decide +kernel
theorem dX11_copy_35 : decode cX11_copy 35 = .ok (.getfield 119, 3) := by decide +kernel
theorem dX11_copy_38 : decode cX11_copy 38 = .ok (.iconst (-1), 1) := by decide +kernel
theorem dX11_copy_39 : decode cX11_copy 39 = .ok (.if_icmp .eq 12, 3) := by decide +kernel
theorem dX11_copy_42 : decode cX11_copy 42 = .ok (.aload 7, 2) := by decide +kernel
theorem dX11_copy_44 : decode cX11_copy 44 = .ok (.getfield 119, 3) := by decide +kernel
theorem dX11_copy_47 : decode cX11_copy 47 = .ok (.iconst (-1), 1) := by decide +kernel
theorem dX11_copy_48 : decode cX11_copy 48 = .ok (.if_icmp .ne 6, 3) := by decide +kernel
theorem dX11_copy_51 : decode cX11_copy 51 = .ok (.bipush (-11), 2) := by decide +kernel
theorem dX11_copy_53 : decode cX11_copy 53 = .ok (.ireturn, 1) := by decide +kernel
theorem dX11_copy_54 : decode cX11_copy 54 = .ok (.aload 6, 2) := by decide +kernel
theorem dX11_copy_56 : decode cX11_copy 56 = .ok (.getfield 119, 3) := by decide +kernel
theorem dX11_copy_59 : decode cX11_copy 59 = .ok (.aload 7, 2) := by decide +kernel
theorem dX11_copy_61 : decode cX11_copy 61 = .ok (.getfield 119, 3) := by decide +kernel
theorem dX11_copy_64 : decode cX11_copy 64 = .ok (.if_icmp .eq 6, 3) := by decide +kernel
theorem dX11_copy_67 : decode cX11_copy 67 = .ok (.bipush (-13), 2) := by decide +kernel
theorem dX11_copy_69 : decode cX11_copy 69 = .ok (.ireturn, 1) := by decide +kernel
theorem dX11_copy_70 : decode cX11_copy 70 = .ok (.aload 6, 2) := by decide +kernel
theorem dX11_copy_72 : decode cX11_copy 72 = .ok (.iload_n 2, 1) := by decide +kernel
theorem dX11_copy_73 : decode cX11_copy 73 = .ok (.iload 5, 2) := by decide +kernel
theorem dX11_copy_75 : decode cX11_copy 75 = .ok (.invokevirtual 311, 3) := by decide +kernel
theorem dX11_copy_78 : decode cX11_copy 78 = .ok (.ifCond .eq 15, 3) := by decide +kernel
theorem dX11_copy_81 : decode cX11_copy 81 = .ok (.aload 7, 2) := by decide +kernel
theorem dX11_copy_83 : decode cX11_copy 83 = .ok (.iload 4, 2) := by decide +kernel
theorem dX11_copy_85 : decode cX11_copy 85 = .ok (.iload 5, 2) := by decide +kernel
theorem dX11_copy_87 : decode cX11_copy 87 = .ok (.invokevirtual 311, 3) := by decide +kernel
theorem dX11_copy_90 : decode cX11_copy 90 = .ok (.ifCond .ne 6, 3) := by decide +kernel
theorem dX11_copy_93 : decode cX11_copy 93 = .ok (.bipush (-12), 2) := by decide +kernel
theorem dX11_copy_95 : decode cX11_copy 95 = .ok (.ireturn, 1) := by decide +kernel
theorem dX11_copy_96 : decode cX11_copy 96 = .ok (.aload 6, 2) := by decide +kernel
theorem dX11_copy_98 : decode cX11_copy 98 = .ok (.getfield 317, 3) := by decide +kernel
theorem dX11_copy_101 : decode cX11_copy 101 = .ok (.iload_n 2, 1) := by decide +kernel
theorem dX11_copy_102 : decode cX11_copy 102 = .ok (.aload 7, 2) := by decide +kernel
theorem dX11_copy_104 : decode cX11_copy 104 = .ok (.getfield 317, 3) := by decide +kernel
theorem dX11_copy_107 : decode cX11_copy 107 = .ok (.iload 4, 2) := by decide +kernel
theorem dX11_copy_109 : decode cX11_copy 109 = .ok (.iload 5, 2) := by decide +kernel
theorem dX11_copy_111 : decode cX11_copy 111 = .ok (.invokestatic 320, 3) := by decide +kernel
theorem dX11_copy_114 : decode cX11_copy 114 = .ok (.iload 5, 2) := by decide +kernel
theorem dX11_copy_116 : decode cX11_copy 116 = .ok (.ireturn, 1) := by decide +kernel
theorem s126_0 : aW d 126 0 [l0, .int a, l2, l3, l4, l5, l6, l7] S h Q = aW d 126 1 [l0, .int a, l2, l3, l4, l5, l6, l7] (.int a :: S) h Q := ax_iload_n mt126 dX11_copy_0 rfl
theorem s126_1 : aW (d + 1) 126 1 L (.int x0 :: []) h Q = aM d 129 [.int x0] h (fun v h1 => aW (d + 1) 126 4 L (ab_ps v []) h1 Q) := ax_invs mt126 dX11_copy_1 (by decide) ct_45171 (.inl rfl) mt129 ⟨⟨Nat.le_of_ble_eq_true rfl, Nat.le_of_ble_eq_true rfl, Nat.le_of_ble_eq_true rfl⟩, rfl, rfl⟩
theorem s126_4 : aW d 126 4 L (.int a :: S) h Q = (if a = 0 then aW d 126 14 L S h Q else aW d 126 7 L S h Q) := ax_if_eq mt126 dX11_copy_4 (by decide)
theorem s126_7 : aW d 126 7 [l0, l1, l2, .int a, l4, l5, l6, l7] S h Q = aW d 126 8 [l0, l1, l2, .int a, l4, l5, l6, l7] (.int a :: S) h Q := ax_iload_n mt126 dX11_copy_7 rfl
theorem s126_8 : aW (d + 1) 126 8 L (.int x0 :: []) h Q = aM d 129 [.int x0] h (fun v h1 => aW (d + 1) 126 11 L (ab_ps v []) h1 Q) := ax_invs mt126 dX11_copy_8 (by decide) ct_45171 (.inl rfl) mt129 ⟨⟨Nat.le_of_ble_eq_true rfl, Nat.le_of_ble_eq_true rfl, Nat.le_of_ble_eq_true rfl⟩, rfl, rfl⟩
theorem s126_11 : aW d 126 11 L (.int a :: S) h Q = (if a = 0 then aW d 126 14 L S h Q else aW d 126 17 L S h Q) := ax_if_ne mt126 dX11_copy_11 (by decide)
theorem s126_17 : aW d 126 17 [.ref o, l1, l2, l3, l4, l5, l6, l7] S h Q = aW d 126 18 [.ref o, l1, l2, l3, l4, l5, l6, l7] (.ref o :: S) h Q := ax_aload_n mt126 dX11_copy_17 rfl
theorem s126_18 (hT : gT h o = some (13, 14)) : aW d 126 18 L (.ref o :: S) h Q = (isRf (gR h o 12) = true ∧ aW d 126 21 L (gR h o 12 :: S) h Q) := ax_geta mt126 dX11_copy_18 (by decide) ft_45136 fk_45136 hT
theorem s126_21 : aW d 126 21 [l0, .int a, l2, l3, l4, l5, l6, l7] S h Q = aW d 126 22 [l0, .int a, l2, l3, l4, l5, l6, l7] (.int a :: S) h Q := ax_iload_n mt126 dX11_copy_21 rfl
theorem s126_22 : aW d 126 22 L (.int a :: .ref o :: S) h Q = ((inb a (aQ h o) ∧ isRf (gR h o a.toNatClampNeg) = true) ∧ aW d 126 23 L (gR h o a.toNatClampNeg :: S) h Q) := ax_aald mt126 dX11_copy_22
theorem s126_23 : aW d 126 23 [l0, l1, l2, l3, l4, l5, l6, l7] (.ref o :: S) h Q = aW d 126 25 [l0, l1, l2, l3, l4, l5, .ref o, l7] S h Q := ax_astore mt126 dX11_copy_23 (Nat.le_of_ble_eq_true rfl) rfl
theorem s126_25 : aW d 126 25 [.ref o, l1, l2, l3, l4, l5, l6, l7] S h Q = aW d 126 26 [.ref o, l1, l2, l3, l4, l5, l6, l7] (.ref o :: S) h Q := ax_aload_n mt126 dX11_copy_25 rfl
theorem s126_26 (hT : gT h o = some (13, 14)) : aW d 126 26 L (.ref o :: S) h Q = (isRf (gR h o 12) = true ∧ aW d 126 29 L (gR h o 12 :: S) h Q) := ax_geta mt126 dX11_copy_26 (by decide) ft_45136 fk_45136 hT
theorem s126_29 : aW d 126 29 [l0, l1, l2, .int a, l4, l5, l6, l7] S h Q = aW d 126 30 [l0, l1, l2, .int a, l4, l5, l6, l7] (.int a :: S) h Q := ax_iload_n mt126 dX11_copy_29 rfl
theorem s126_30 : aW d 126 30 L (.int a :: .ref o :: S) h Q = ((inb a (aQ h o) ∧ isRf (gR h o a.toNatClampNeg) = true) ∧ aW d 126 31 L (gR h o a.toNatClampNeg :: S) h Q) := ax_aald mt126 dX11_copy_30
theorem s126_31 : aW d 126 31 [l0, l1, l2, l3, l4, l5, l6, l7] (.ref o :: S) h Q = aW d 126 33 [l0, l1, l2, l3, l4, l5, l6, .ref o] S h Q := ax_astore mt126 dX11_copy_31 (Nat.le_of_ble_eq_true rfl) rfl
theorem s126_33 : aW d 126 33 [l0, l1, l2, l3, l4, l5, .ref o, l7] S h Q = aW d 126 35 [l0, l1, l2, l3, l4, l5, .ref o, l7] (.ref o :: S) h Q := ax_aload mt126 dX11_copy_33 rfl
theorem s126_35 (hT : gT h o = some (11, 3)) : aW d 126 35 L (.ref o :: S) h Q = aW d 126 38 L (.int (gI h o 0) :: S) h Q := ax_geti mt126 dX11_copy_35 (by decide) ft_45175 fk_45175 hT
theorem s126_38 : aW d 126 38 L S h Q = aW d 126 39 L (.int ((-1)) :: S) h Q := ax_iconst mt126 dX11_copy_38 ic_m1
theorem s126_39 : aW d 126 39 L (.int b :: .int a :: S) h Q = (if a = b then aW d 126 51 L S h Q else aW d 126 42 L S h Q) := ax_icmp_eq mt126 dX11_copy_39 (by decide)
theorem s126_42 : aW d 126 42 [l0, l1, l2, l3, l4, l5, l6, .ref o] S h Q = aW d 126 44 [l0, l1, l2, l3, l4, l5, l6, .ref o] (.ref o :: S) h Q := ax_aload mt126 dX11_copy_42 rfl
theorem s126_44 (hT : gT h o = some (11, 3)) : aW d 126 44 L (.ref o :: S) h Q = aW d 126 47 L (.int (gI h o 0) :: S) h Q := ax_geti mt126 dX11_copy_44 (by decide) ft_45175 fk_45175 hT
theorem s126_47 : aW d 126 47 L S h Q = aW d 126 48 L (.int ((-1)) :: S) h Q := ax_iconst mt126 dX11_copy_47 ic_m1
theorem s126_48 : aW d 126 48 L (.int b :: .int a :: S) h Q = (if a = b then aW d 126 51 L S h Q else aW d 126 54 L S h Q) := ax_icmp_ne mt126 dX11_copy_48 (by decide)
theorem s126_54 : aW d 126 54 [l0, l1, l2, l3, l4, l5, .ref o, l7] S h Q = aW d 126 56 [l0, l1, l2, l3, l4, l5, .ref o, l7] (.ref o :: S) h Q := ax_aload mt126 dX11_copy_54 rfl
theorem s126_56 (hT : gT h o = some (11, 3)) : aW d 126 56 L (.ref o :: S) h Q = aW d 126 59 L (.int (gI h o 0) :: S) h Q := ax_geti mt126 dX11_copy_56 (by decide) ft_45175 fk_45175 hT
theorem s126_59 : aW d 126 59 [l0, l1, l2, l3, l4, l5, l6, .ref o] S h Q = aW d 126 61 [l0, l1, l2, l3, l4, l5, l6, .ref o] (.ref o :: S) h Q := ax_aload mt126 dX11_copy_59 rfl
theorem s126_61 (hT : gT h o = some (11, 3)) : aW d 126 61 L (.ref o :: S) h Q = aW d 126 64 L (.int (gI h o 0) :: S) h Q := ax_geti mt126 dX11_copy_61 (by decide) ft_45175 fk_45175 hT
theorem s126_64 : aW d 126 64 L (.int b :: .int a :: S) h Q = (if a = b then aW d 126 70 L S h Q else aW d 126 67 L S h Q) := ax_icmp_eq mt126 dX11_copy_64 (by decide)
theorem s126_67 : aW d 126 67 L S h Q = aW d 126 69 L (.int ((-13)) :: S) h Q := ax_bipush mt126 dX11_copy_67 bp_m13
theorem s126_69 : aW d 126 69 L [.int a] h Q = Q (some (.int a)) h := ax_reti mt126 dX11_copy_69 rfl
theorem s126_70 : aW d 126 70 [l0, l1, l2, l3, l4, l5, .ref o, l7] S h Q = aW d 126 72 [l0, l1, l2, l3, l4, l5, .ref o, l7] (.ref o :: S) h Q := ax_aload mt126 dX11_copy_70 rfl
theorem s126_72 : aW d 126 72 [l0, l1, .int a, l3, l4, l5, l6, l7] S h Q = aW d 126 73 [l0, l1, .int a, l3, l4, l5, l6, l7] (.int a :: S) h Q := ax_iload_n mt126 dX11_copy_72 rfl
theorem s126_73 : aW d 126 73 [l0, l1, l2, l3, l4, .int a, l6, l7] S h Q = aW d 126 75 [l0, l1, l2, l3, l4, .int a, l6, l7] (.int a :: S) h Q := ax_iload mt126 dX11_copy_73 rfl
theorem s126_75 (hT : gT h o = some (11, 3)) : aW (d + 1) 126 75 L (.int x1 :: .int x0 :: .ref o :: []) h Q = aM d 80 (.ref o :: [.int x0, .int x1]) h (fun v h1 => aW (d + 1) 126 78 L (ab_ps v []) h1 Q) := ax_invv mt126 dX11_copy_75 (by decide) ct_45367 (.inl rfl) mt80 ⟨⟨Nat.le_of_ble_eq_true rfl, Nat.le_of_ble_eq_true rfl, Nat.le_of_ble_eq_true rfl⟩, rfl, rfl, rfl⟩ hT
theorem s126_78 : aW d 126 78 L (.int a :: S) h Q = (if a = 0 then aW d 126 93 L S h Q else aW d 126 81 L S h Q) := ax_if_eq mt126 dX11_copy_78 (by decide)
theorem s126_81 : aW d 126 81 [l0, l1, l2, l3, l4, l5, l6, .ref o] S h Q = aW d 126 83 [l0, l1, l2, l3, l4, l5, l6, .ref o] (.ref o :: S) h Q := ax_aload mt126 dX11_copy_81 rfl
theorem s126_83 : aW d 126 83 [l0, l1, l2, l3, .int a, l5, l6, l7] S h Q = aW d 126 85 [l0, l1, l2, l3, .int a, l5, l6, l7] (.int a :: S) h Q := ax_iload mt126 dX11_copy_83 rfl
theorem s126_85 : aW d 126 85 [l0, l1, l2, l3, l4, .int a, l6, l7] S h Q = aW d 126 87 [l0, l1, l2, l3, l4, .int a, l6, l7] (.int a :: S) h Q := ax_iload mt126 dX11_copy_85 rfl
theorem s126_87 (hT : gT h o = some (11, 3)) : aW (d + 1) 126 87 L (.int x1 :: .int x0 :: .ref o :: []) h Q = aM d 80 (.ref o :: [.int x0, .int x1]) h (fun v h1 => aW (d + 1) 126 90 L (ab_ps v []) h1 Q) := ax_invv mt126 dX11_copy_87 (by decide) ct_45367 (.inl rfl) mt80 ⟨⟨Nat.le_of_ble_eq_true rfl, Nat.le_of_ble_eq_true rfl, Nat.le_of_ble_eq_true rfl⟩, rfl, rfl, rfl⟩ hT
theorem s126_90 : aW d 126 90 L (.int a :: S) h Q = (if a = 0 then aW d 126 93 L S h Q else aW d 126 96 L S h Q) := ax_if_ne mt126 dX11_copy_90 (by decide)
theorem s126_96 : aW d 126 96 [l0, l1, l2, l3, l4, l5, .ref o, l7] S h Q = aW d 126 98 [l0, l1, l2, l3, l4, l5, .ref o, l7] (.ref o :: S) h Q := ax_aload mt126 dX11_copy_96 rfl
theorem s126_98 (hT : gT h o = some (11, 3)) : aW d 126 98 L (.ref o :: S) h Q = (isRf (gR h o 2) = true ∧ aW d 126 101 L (gR h o 2 :: S) h Q) := ax_geta mt126 dX11_copy_98 (by decide) ft_45373 fk_45373 hT
theorem s126_101 : aW d 126 101 [l0, l1, .int a, l3, l4, l5, l6, l7] S h Q = aW d 126 102 [l0, l1, .int a, l3, l4, l5, l6, l7] (.int a :: S) h Q := ax_iload_n mt126 dX11_copy_101 rfl
theorem s126_102 : aW d 126 102 [l0, l1, l2, l3, l4, l5, l6, .ref o] S h Q = aW d 126 104 [l0, l1, l2, l3, l4, l5, l6, .ref o] (.ref o :: S) h Q := ax_aload mt126 dX11_copy_102 rfl
theorem s126_104 (hT : gT h o = some (11, 3)) : aW d 126 104 L (.ref o :: S) h Q = (isRf (gR h o 2) = true ∧ aW d 126 107 L (gR h o 2 :: S) h Q) := ax_geta mt126 dX11_copy_104 (by decide) ft_45373 fk_45373 hT
theorem s126_107 : aW d 126 107 [l0, l1, l2, l3, .int a, l5, l6, l7] S h Q = aW d 126 109 [l0, l1, l2, l3, .int a, l5, l6, l7] (.int a :: S) h Q := ax_iload mt126 dX11_copy_107 rfl
theorem s126_109 : aW d 126 109 [l0, l1, l2, l3, l4, .int a, l6, l7] S h Q = aW d 126 111 [l0, l1, l2, l3, l4, .int a, l6, l7] (.int a :: S) h Q := ax_iload mt126 dX11_copy_109 rfl
theorem s126_111 {n0 n1 : Nat} (hT0 : gT h o = some (0, n0)) (hT1 : gT h o2 = some (0, n1)) (hc : ¬ x1 < 0 ∧ ¬ x2 < 0 ∧ ¬ x3 < 0 ∧ x1.toNatClampNeg + x3.toNatClampNeg ≤ n0 ∧ x2.toNatClampNeg + x3.toNatClampNeg ≤ n1) : aW (d + 1) 126 111 L (.int x3 :: .int x2 :: .ref o2 :: .int x1 :: .ref o :: []) h Q = aW (d + 1) 126 114 L [] (pA h o2 (va_cpy (gI h o) (gI h o2) x1.toNatClampNeg x2.toNatClampNeg x3.toNatClampNeg)) Q := ax_acpy mt126 dX11_copy_111 (by decide) ct_45376 (Nat.le_of_ble_eq_true rfl) hT0 hT1 hc
theorem s126_114 : aW d 126 114 [l0, l1, l2, l3, l4, .int a, l6, l7] S h Q = aW d 126 116 [l0, l1, l2, l3, l4, .int a, l6, l7] (.int a :: S) h Q := ax_iload mt126 dX11_copy_114 rfl
theorem s126_116 : aW d 126 116 L [.int a] h Q = Q (some (.int a)) h := ax_reti mt126 dX11_copy_116 rfl
theorem s126_93 : aW d 126 93 L S h Q = aW d 126 95 L (.int ((-12)) :: S) h Q := ax_bipush mt126 dX11_copy_93 bp_m12
theorem s126_95 : aW d 126 95 L [.int a] h Q = Q (some (.int a)) h := ax_reti mt126 dX11_copy_95 rfl
theorem s126_51 : aW d 126 51 L S h Q = aW d 126 53 L (.int ((-11)) :: S) h Q := ax_bipush mt126 dX11_copy_51 bp_m11
theorem s126_53 : aW d 126 53 L [.int a] h Q = Q (some (.int a)) h := ax_reti mt126 dX11_copy_53 rfl
theorem s126_14 : aW d 126 14 L S h Q = aW d 126 16 L (.int ((-2)) :: S) h Q := ax_bipush mt126 dX11_copy_14 bp_m2
theorem s126_16 : aW d 126 16 L [.int a] h Q = Q (some (.int a)) h := ax_reti mt126 dX11_copy_16 rfl
-- method 127: BufferRoom.lays(IIII)I
theorem dX11_lays_0 : decode cX11_lays 0 = .ok (.iload_n 1, 1) := by decide +kernel
theorem dX11_lays_1 : decode cX11_lays 1 = .ok (.invokestatic 115, 3) := by decide +kernel
theorem dX11_lays_4 : decode cX11_lays 4 = .ok (.ifCond .eq 22, 3) := by decide +kernel
theorem dX11_lays_7 : decode cX11_lays 7 = .ok (.iload_n 2, 1) := by decide +kernel
theorem dX11_lays_8 : decode cX11_lays 8 = .ok (.invokestatic 304, 3) := by decide +kernel
theorem dX11_lays_11 : decode cX11_lays 11 = .ok (.ifCond .eq 15, 3) := by decide +kernel
theorem dX11_lays_14 : decode cX11_lays 14 = .ok (.iload 4, 2) := by decide +kernel
theorem dX11_lays_16 : decode cX11_lays 16 = .ok (.ifCond .lt 10, 3) := by decide +kernel
theorem dX11_lays_19 : decode cX11_lays 19 = .ok (.iload 4, 2) := by decide +kernel
theorem dX11_lays_21 : decode cX11_lays 21 = .ok (.bipush 20, 2) := by decide +kernel
theorem dX11_lays_23 : decode cX11_lays 23 = .ok (.if_icmp .le 6, 3) := by decide +kernel
theorem dX11_lays_26 : decode cX11_lays 26 = .ok (.bipush (-2), 2) := by decide +kernel
theorem dX11_lays_28 : decode cX11_lays 28 = .ok (.ireturn, 1) := by decide +kernel
theorem dX11_lays_29 : decode cX11_lays 29 = .ok (.aload_n 0, 1) := by decide +kernel
theorem dX11_lays_30 : decode cX11_lays 30 = .ok (.getfield 80, 3) := by decide +kernel
theorem dX11_lays_33 : decode cX11_lays 33 = .ok (.iload_n 1, 1) := by decide +kernel
theorem dX11_lays_34 : decode cX11_lays 34 = .ok (.aaload, 1) := by decide +kernel
theorem dX11_lays_35 : decode cX11_lays 35 = .ok (.astore 5, 2) := by decide +kernel
theorem dX11_lays_37 : decode cX11_lays 37 = .ok (.aload 5, 2) := by decide +kernel
theorem dX11_lays_39 : decode cX11_lays 39 = .ok (.getfield 119, 3) := by decide +kernel
theorem dX11_lays_42 : decode cX11_lays 42 = .ok (.iconst (-1), 1) := by decide +kernel
theorem dX11_lays_43 : decode cX11_lays 43 = .ok (.if_icmp .ne 6, 3) := by decide +kernel
theorem dX11_lays_46 : decode cX11_lays 46 = .ok (.bipush (-11), 2) := by decide +kernel
theorem dX11_lays_48 : decode cX11_lays 48 = .ok (.ireturn, 1) := by decide +kernel
theorem dX11_lays_49 : decode cX11_lays 49 = .ok (.aload 5, 2) := by decide +kernel
theorem dX11_lays_51 : decode cX11_lays 51 = .ok (.getfield 119, 3) := by decide +kernel
theorem dX11_lays_54 : decode cX11_lays 54 = .ok (.iload_n 2, 1) := by decide +kernel
theorem dX11_lays_55 : decode cX11_lays 55 = .ok (.if_icmp .eq 6, 3) := by decide +kernel
theorem dX11_lays_58 : decode cX11_lays 58 = .ok (.bipush (-13), 2) := by decide +kernel
theorem dX11_lays_60 : decode cX11_lays 60 = .ok (.ireturn, 1) := by decide +kernel
theorem dX11_lays_61 : decode cX11_lays 61 = .ok (.iconst 0, 1) := by decide +kernel
theorem dX11_lays_62 : decode cX11_lays 62 = .ok (.istore 6, 2) := by decide +kernel
theorem dX11_lays_64 : decode cX11_lays 64 = .ok (.iconst 0, 1) := by decide +kernel
theorem dX11_lays_65 : decode cX11_lays 65 = .ok (.istore 7, 2) := by decide +kernel
theorem dX11_lays_67 : decode cX11_lays 67 = .ok (.iload 7, 2) := by decide +kernel
theorem dX11_lays_69 : decode cX11_lays 69 = .ok (.iload 4, 2) := by decide +kernel
theorem dX11_lays_71 : decode cX11_lays 71 = .ok (.if_icmp .ge 89, 3) := by decide +kernel
theorem dX11_lays_74 : decode cX11_lays 74 = .ok (.aload 5, 2) := by decide +kernel
theorem dX11_lays_76 : decode cX11_lays 76 = .ok (.iload_n 3, 1) := by decide +kernel
theorem dX11_lays_77 : decode cX11_lays 77 = .ok (.iconst 2, 1) := by decide +kernel
theorem dX11_lays_78 : decode cX11_lays 78 = .ok (.iload 7, 2) := by decide +kernel
theorem dX11_lays_80 : decode cX11_lays 80 = .ok (.imul, 1) := by decide +kernel
theorem dX11_lays_81 : decode cX11_lays 81 = .ok (.iconst 2, 1) := by decide +kernel
theorem dX11_lays_82 : decode cX11_lays 82 = .ok (.iadd, 1) := by decide +kernel
theorem dX11_lays_83 : decode cX11_lays 83 = .ok (.invokevirtual 311, 3) := by decide +kernel
theorem dX11_lays_86 : decode cX11_lays 86 = .ok (.ifCond .ne 6, 3) := by decide +kernel
theorem dX11_lays_89 : decode cX11_lays 89 = .ok (.bipush (-12), 2) := by decide +kernel
theorem dX11_lays_91 : decode cX11_lays 91 = .ok (.ireturn, 1) := by decide +kernel
theorem dX11_lays_92 : decode cX11_lays 92 = .ok (.aload 5, 2) := by decide +kernel
theorem dX11_lays_94 : decode cX11_lays 94 = .ok (.getfield 317, 3) := by decide +kernel
theorem dX11_lays_97 : decode cX11_lays 97 = .ok (.iload_n 3, 1) := by decide +kernel
theorem dX11_lays_98 : decode cX11_lays 98 = .ok (.iconst 2, 1) := by decide +kernel
theorem dX11_lays_99 : decode cX11_lays 99 = .ok (.iload 7, 2) := by decide +kernel
theorem dX11_lays_101 : decode cX11_lays 101 = .ok (.imul, 1) := by decide +kernel
theorem dX11_lays_102 : decode cX11_lays 102 = .ok (.iadd, 1) := by decide +kernel
theorem dX11_lays_103 : decode cX11_lays 103 = .ok (.iaload, 1) := by decide +kernel
theorem dX11_lays_104 : decode cX11_lays 104 = .ok (.istore 8, 2) := by decide +kernel
theorem dX11_lays_106 : decode cX11_lays 106 = .ok (.aload 5, 2) := by decide +kernel
theorem dX11_lays_108 : decode cX11_lays 108 = .ok (.getfield 317, 3) := by decide +kernel
theorem dX11_lays_111 : decode cX11_lays 111 = .ok (.iload_n 3, 1) := by decide +kernel
theorem dX11_lays_112 : decode cX11_lays 112 = .ok (.iconst 2, 1) := by decide +kernel
theorem dX11_lays_113 : decode cX11_lays 113 = .ok (.iload 7, 2) := by decide +kernel
theorem dX11_lays_115 : decode cX11_lays 115 = .ok (.imul, 1) := by decide +kernel
theorem dX11_lays_116 : decode cX11_lays 116 = .ok (.iadd, 1) := by decide +kernel
theorem dX11_lays_117 : decode cX11_lays 117 = .ok (.iconst 1, 1) := by decide +kernel
theorem dX11_lays_118 : decode cX11_lays 118 = .ok (.iadd, 1) := by decide +kernel
theorem dX11_lays_119 : decode cX11_lays 119 = .ok (.iaload, 1) := by decide +kernel
theorem dX11_lays_120 : decode cX11_lays 120 = .ok (.istore 9, 2) := by decide +kernel
theorem dX11_lays_122 : decode cX11_lays 122 = .ok (.aload_n 0, 1) := by decide +kernel
theorem dX11_lays_123 : decode cX11_lays 123 = .ok (.getfield 19, 3) := by decide +kernel
theorem dX11_lays_126 : decode cX11_lays 126 = .ok (.iload 8, 2) := by decide +kernel
theorem dX11_lays_128 : decode cX11_lays 128 = .ok (.invokevirtual 157, 3) := by decide +kernel
theorem dX11_lays_131 : decode cX11_lays 131 = .ok (.ifCond .eq 23, 3) := by decide +kernel
theorem dX11_lays_134 : decode cX11_lays 134 = .ok (.iload 9, 2) := by decide +kernel
theorem dX11_lays_136 : decode cX11_lays 136 = .ok (.invokestatic 228, 3) := by decide +kernel
theorem dX11_lays_139 : decode cX11_lays 139 = .ok (.ifCond .eq 15, 3) := by decide +kernel
theorem dX11_lays_142 : decode cX11_lays 142 = .ok (.aload_n 0, 1) := by decide +kernel
theorem dX11_lays_143 : decode cX11_lays 143 = .ok (.getfield 50, 3) := by decide +kernel
theorem dX11_lays_146 : decode cX11_lays 146 = .ok (.iload 8, 2) := by decide +kernel
theorem dX11_lays_148 : decode cX11_lays 148 = .ok (.iload 9, 2) := by decide +kernel
theorem dX11_lays_150 : decode cX11_lays 150 = .ok (.iastore, 1) := by decide +kernel
theorem dX11_lays_151 : decode cX11_lays 151 = .ok (.iinc 6 1, 3) := by decide +kernel
theorem dX11_lays_154 : decode cX11_lays 154 = .ok (.iinc 7 1, 3) := by decide +kernel
theorem dX11_lays_157 : decode cX11_lays 157 = .ok (.goto (-90), 3) := by decide +kernel
theorem dX11_lays_160 : decode cX11_lays 160 = .ok (.iload 6, 2) := by decide +kernel
theorem dX11_lays_162 : decode cX11_lays 162 = .ok (.ireturn, 1) := by decide +kernel
theorem s127_0 : aW d 127 0 [l0, .int a, l2, l3, l4, l5, l6, l7, l8, l9] S h Q = aW d 127 1 [l0, .int a, l2, l3, l4, l5, l6, l7, l8, l9] (.int a :: S) h Q := ax_iload_n mt127 dX11_lays_0 rfl
theorem s127_1 : aW (d + 1) 127 1 L (.int x0 :: []) h Q = aM d 129 [.int x0] h (fun v h1 => aW (d + 1) 127 4 L (ab_ps v []) h1 Q) := ax_invs mt127 dX11_lays_1 (by decide) ct_45171 (.inl rfl) mt129 ⟨⟨Nat.le_of_ble_eq_true rfl, Nat.le_of_ble_eq_true rfl, Nat.le_of_ble_eq_true rfl⟩, rfl, rfl⟩
theorem s127_4 : aW d 127 4 L (.int a :: S) h Q = (if a = 0 then aW d 127 26 L S h Q else aW d 127 7 L S h Q) := ax_if_eq mt127 dX11_lays_4 (by decide)
theorem s127_7 : aW d 127 7 [l0, l1, .int a, l3, l4, l5, l6, l7, l8, l9] S h Q = aW d 127 8 [l0, l1, .int a, l3, l4, l5, l6, l7, l8, l9] (.int a :: S) h Q := ax_iload_n mt127 dX11_lays_7 rfl
theorem s127_8 : aW (d + 1) 127 8 L (.int x0 :: []) h Q = aM d 130 [.int x0] h (fun v h1 => aW (d + 1) 127 11 L (ab_ps v []) h1 Q) := ax_invs mt127 dX11_lays_8 (by decide) ct_45360 (.inl rfl) mt130 ⟨⟨Nat.le_of_ble_eq_true rfl, Nat.le_of_ble_eq_true rfl, Nat.le_of_ble_eq_true rfl⟩, rfl, rfl⟩
theorem s127_11 : aW d 127 11 L (.int a :: S) h Q = (if a = 0 then aW d 127 26 L S h Q else aW d 127 14 L S h Q) := ax_if_eq mt127 dX11_lays_11 (by decide)
theorem s127_14 : aW d 127 14 [l0, l1, l2, l3, .int a, l5, l6, l7, l8, l9] S h Q = aW d 127 16 [l0, l1, l2, l3, .int a, l5, l6, l7, l8, l9] (.int a :: S) h Q := ax_iload mt127 dX11_lays_14 rfl
theorem s127_16 : aW d 127 16 L (.int a :: S) h Q = (if a < 0 then aW d 127 26 L S h Q else aW d 127 19 L S h Q) := ax_if_lt mt127 dX11_lays_16 (by decide)
theorem s127_19 : aW d 127 19 [l0, l1, l2, l3, .int a, l5, l6, l7, l8, l9] S h Q = aW d 127 21 [l0, l1, l2, l3, .int a, l5, l6, l7, l8, l9] (.int a :: S) h Q := ax_iload mt127 dX11_lays_19 rfl
theorem s127_21 : aW d 127 21 L S h Q = aW d 127 23 L (.int (nI 20) :: S) h Q := ax_bipush mt127 dX11_lays_21 bp_20
theorem s127_23 : aW d 127 23 L (.int b :: .int a :: S) h Q = (if b < a then aW d 127 26 L S h Q else aW d 127 29 L S h Q) := ax_icmp_le mt127 dX11_lays_23 (by decide)
theorem s127_29 : aW d 127 29 [.ref o, l1, l2, l3, l4, l5, l6, l7, l8, l9] S h Q = aW d 127 30 [.ref o, l1, l2, l3, l4, l5, l6, l7, l8, l9] (.ref o :: S) h Q := ax_aload_n mt127 dX11_lays_29 rfl
theorem s127_30 (hT : gT h o = some (13, 14)) : aW d 127 30 L (.ref o :: S) h Q = (isRf (gR h o 12) = true ∧ aW d 127 33 L (gR h o 12 :: S) h Q) := ax_geta mt127 dX11_lays_30 (by decide) ft_45136 fk_45136 hT
theorem s127_33 : aW d 127 33 [l0, .int a, l2, l3, l4, l5, l6, l7, l8, l9] S h Q = aW d 127 34 [l0, .int a, l2, l3, l4, l5, l6, l7, l8, l9] (.int a :: S) h Q := ax_iload_n mt127 dX11_lays_33 rfl
theorem s127_34 : aW d 127 34 L (.int a :: .ref o :: S) h Q = ((inb a (aQ h o) ∧ isRf (gR h o a.toNatClampNeg) = true) ∧ aW d 127 35 L (gR h o a.toNatClampNeg :: S) h Q) := ax_aald mt127 dX11_lays_34
theorem s127_35 : aW d 127 35 [l0, l1, l2, l3, l4, l5, l6, l7, l8, l9] (.ref o :: S) h Q = aW d 127 37 [l0, l1, l2, l3, l4, .ref o, l6, l7, l8, l9] S h Q := ax_astore mt127 dX11_lays_35 (Nat.le_of_ble_eq_true rfl) rfl
theorem s127_37 : aW d 127 37 [l0, l1, l2, l3, l4, .ref o, l6, l7, l8, l9] S h Q = aW d 127 39 [l0, l1, l2, l3, l4, .ref o, l6, l7, l8, l9] (.ref o :: S) h Q := ax_aload mt127 dX11_lays_37 rfl
theorem s127_39 (hT : gT h o = some (11, 3)) : aW d 127 39 L (.ref o :: S) h Q = aW d 127 42 L (.int (gI h o 0) :: S) h Q := ax_geti mt127 dX11_lays_39 (by decide) ft_45175 fk_45175 hT
theorem s127_42 : aW d 127 42 L S h Q = aW d 127 43 L (.int ((-1)) :: S) h Q := ax_iconst mt127 dX11_lays_42 ic_m1
theorem s127_43 : aW d 127 43 L (.int b :: .int a :: S) h Q = (if a = b then aW d 127 46 L S h Q else aW d 127 49 L S h Q) := ax_icmp_ne mt127 dX11_lays_43 (by decide)
theorem s127_46 : aW d 127 46 L S h Q = aW d 127 48 L (.int ((-11)) :: S) h Q := ax_bipush mt127 dX11_lays_46 bp_m11
theorem s127_48 : aW d 127 48 L [.int a] h Q = Q (some (.int a)) h := ax_reti mt127 dX11_lays_48 rfl
theorem s127_49 : aW d 127 49 [l0, l1, l2, l3, l4, .ref o, l6, l7, l8, l9] S h Q = aW d 127 51 [l0, l1, l2, l3, l4, .ref o, l6, l7, l8, l9] (.ref o :: S) h Q := ax_aload mt127 dX11_lays_49 rfl
theorem s127_51 (hT : gT h o = some (11, 3)) : aW d 127 51 L (.ref o :: S) h Q = aW d 127 54 L (.int (gI h o 0) :: S) h Q := ax_geti mt127 dX11_lays_51 (by decide) ft_45175 fk_45175 hT
theorem s127_54 : aW d 127 54 [l0, l1, .int a, l3, l4, l5, l6, l7, l8, l9] S h Q = aW d 127 55 [l0, l1, .int a, l3, l4, l5, l6, l7, l8, l9] (.int a :: S) h Q := ax_iload_n mt127 dX11_lays_54 rfl
theorem s127_55 : aW d 127 55 L (.int b :: .int a :: S) h Q = (if a = b then aW d 127 61 L S h Q else aW d 127 58 L S h Q) := ax_icmp_eq mt127 dX11_lays_55 (by decide)
theorem s127_58 : aW d 127 58 L S h Q = aW d 127 60 L (.int ((-13)) :: S) h Q := ax_bipush mt127 dX11_lays_58 bp_m13
theorem s127_60 : aW d 127 60 L [.int a] h Q = Q (some (.int a)) h := ax_reti mt127 dX11_lays_60 rfl
theorem s127_61 : aW d 127 61 L S h Q = aW d 127 62 L (.int (nI 0) :: S) h Q := ax_iconst mt127 dX11_lays_61 ic_0
theorem s127_62 : aW d 127 62 [l0, l1, l2, l3, l4, l5, l6, l7, l8, l9] (.int a :: S) h Q = aW d 127 64 [l0, l1, l2, l3, l4, l5, .int a, l7, l8, l9] S h Q := ax_istore mt127 dX11_lays_62 (Nat.le_of_ble_eq_true rfl) rfl
theorem s127_64 : aW d 127 64 L S h Q = aW d 127 65 L (.int (nI 0) :: S) h Q := ax_iconst mt127 dX11_lays_64 ic_0
theorem s127_65 : aW d 127 65 [l0, l1, l2, l3, l4, l5, l6, l7, l8, l9] (.int a :: S) h Q = aW d 127 67 [l0, l1, l2, l3, l4, l5, l6, .int a, l8, l9] S h Q := ax_istore mt127 dX11_lays_65 (Nat.le_of_ble_eq_true rfl) rfl
theorem s127_67 : aW d 127 67 [l0, l1, l2, l3, l4, l5, l6, .int a, l8, l9] S h Q = aW d 127 69 [l0, l1, l2, l3, l4, l5, l6, .int a, l8, l9] (.int a :: S) h Q := ax_iload mt127 dX11_lays_67 rfl
theorem s127_69 : aW d 127 69 [l0, l1, l2, l3, .int a, l5, l6, l7, l8, l9] S h Q = aW d 127 71 [l0, l1, l2, l3, .int a, l5, l6, l7, l8, l9] (.int a :: S) h Q := ax_iload mt127 dX11_lays_69 rfl
theorem s127_71 : aW d 127 71 L (.int b :: .int a :: S) h Q = (if a < b then aW d 127 74 L S h Q else aW d 127 160 L S h Q) := ax_icmp_ge mt127 dX11_lays_71 (by decide)
theorem s127_74 : aW d 127 74 [l0, l1, l2, l3, l4, .ref o, l6, l7, l8, l9] S h Q = aW d 127 76 [l0, l1, l2, l3, l4, .ref o, l6, l7, l8, l9] (.ref o :: S) h Q := ax_aload mt127 dX11_lays_74 rfl
theorem s127_76 : aW d 127 76 [l0, l1, l2, .int a, l4, l5, l6, l7, l8, l9] S h Q = aW d 127 77 [l0, l1, l2, .int a, l4, l5, l6, l7, l8, l9] (.int a :: S) h Q := ax_iload_n mt127 dX11_lays_76 rfl
theorem s127_77 : aW d 127 77 L S h Q = aW d 127 78 L (.int (nI 2) :: S) h Q := ax_iconst mt127 dX11_lays_77 ic_2
theorem s127_78 : aW d 127 78 [l0, l1, l2, l3, l4, l5, l6, .int a, l8, l9] S h Q = aW d 127 80 [l0, l1, l2, l3, l4, l5, l6, .int a, l8, l9] (.int a :: S) h Q := ax_iload mt127 dX11_lays_78 rfl
theorem s127_80 : aW d 127 80 L (.int b :: .int a :: S) h Q = aW d 127 81 L (.int (a * b) :: S) h Q := ax_imul mt127 dX11_lays_80
theorem s127_81 : aW d 127 81 L S h Q = aW d 127 82 L (.int (nI 2) :: S) h Q := ax_iconst mt127 dX11_lays_81 ic_2
theorem s127_82 : aW d 127 82 L (.int b :: .int a :: S) h Q = aW d 127 83 L (.int (a + b) :: S) h Q := ax_iadd mt127 dX11_lays_82
theorem s127_83 (hT : gT h o = some (11, 3)) : aW (d + 1) 127 83 L (.int x1 :: .int x0 :: .ref o :: []) h Q = aM d 80 (.ref o :: [.int x0, .int x1]) h (fun v h1 => aW (d + 1) 127 86 L (ab_ps v []) h1 Q) := ax_invv mt127 dX11_lays_83 (by decide) ct_45367 (.inl rfl) mt80 ⟨⟨Nat.le_of_ble_eq_true rfl, Nat.le_of_ble_eq_true rfl, Nat.le_of_ble_eq_true rfl⟩, rfl, rfl, rfl⟩ hT
theorem s127_86 : aW d 127 86 L (.int a :: S) h Q = (if a = 0 then aW d 127 89 L S h Q else aW d 127 92 L S h Q) := ax_if_ne mt127 dX11_lays_86 (by decide)
theorem s127_89 : aW d 127 89 L S h Q = aW d 127 91 L (.int ((-12)) :: S) h Q := ax_bipush mt127 dX11_lays_89 bp_m12
theorem s127_91 : aW d 127 91 L [.int a] h Q = Q (some (.int a)) h := ax_reti mt127 dX11_lays_91 rfl
theorem s127_92 : aW d 127 92 [l0, l1, l2, l3, l4, .ref o, l6, l7, l8, l9] S h Q = aW d 127 94 [l0, l1, l2, l3, l4, .ref o, l6, l7, l8, l9] (.ref o :: S) h Q := ax_aload mt127 dX11_lays_92 rfl
theorem s127_94 (hT : gT h o = some (11, 3)) : aW d 127 94 L (.ref o :: S) h Q = (isRf (gR h o 2) = true ∧ aW d 127 97 L (gR h o 2 :: S) h Q) := ax_geta mt127 dX11_lays_94 (by decide) ft_45373 fk_45373 hT
theorem s127_97 : aW d 127 97 [l0, l1, l2, .int a, l4, l5, l6, l7, l8, l9] S h Q = aW d 127 98 [l0, l1, l2, .int a, l4, l5, l6, l7, l8, l9] (.int a :: S) h Q := ax_iload_n mt127 dX11_lays_97 rfl
theorem s127_98 : aW d 127 98 L S h Q = aW d 127 99 L (.int (nI 2) :: S) h Q := ax_iconst mt127 dX11_lays_98 ic_2
theorem s127_99 : aW d 127 99 [l0, l1, l2, l3, l4, l5, l6, .int a, l8, l9] S h Q = aW d 127 101 [l0, l1, l2, l3, l4, l5, l6, .int a, l8, l9] (.int a :: S) h Q := ax_iload mt127 dX11_lays_99 rfl
theorem s127_101 : aW d 127 101 L (.int b :: .int a :: S) h Q = aW d 127 102 L (.int (a * b) :: S) h Q := ax_imul mt127 dX11_lays_101
theorem s127_102 : aW d 127 102 L (.int b :: .int a :: S) h Q = aW d 127 103 L (.int (a + b) :: S) h Q := ax_iadd mt127 dX11_lays_102
theorem s127_103 : aW d 127 103 L (.int a :: .ref o :: S) h Q = (inb a (aI h o) ∧ aW d 127 104 L (.int (gI h o a.toNatClampNeg) :: S) h Q) := ax_iald mt127 dX11_lays_103
theorem s127_104 : aW d 127 104 [l0, l1, l2, l3, l4, l5, l6, l7, l8, l9] (.int a :: S) h Q = aW d 127 106 [l0, l1, l2, l3, l4, l5, l6, l7, .int a, l9] S h Q := ax_istore mt127 dX11_lays_104 (Nat.le_of_ble_eq_true rfl) rfl
theorem s127_106 : aW d 127 106 [l0, l1, l2, l3, l4, .ref o, l6, l7, l8, l9] S h Q = aW d 127 108 [l0, l1, l2, l3, l4, .ref o, l6, l7, l8, l9] (.ref o :: S) h Q := ax_aload mt127 dX11_lays_106 rfl
theorem s127_108 (hT : gT h o = some (11, 3)) : aW d 127 108 L (.ref o :: S) h Q = (isRf (gR h o 2) = true ∧ aW d 127 111 L (gR h o 2 :: S) h Q) := ax_geta mt127 dX11_lays_108 (by decide) ft_45373 fk_45373 hT
theorem s127_111 : aW d 127 111 [l0, l1, l2, .int a, l4, l5, l6, l7, l8, l9] S h Q = aW d 127 112 [l0, l1, l2, .int a, l4, l5, l6, l7, l8, l9] (.int a :: S) h Q := ax_iload_n mt127 dX11_lays_111 rfl
theorem s127_112 : aW d 127 112 L S h Q = aW d 127 113 L (.int (nI 2) :: S) h Q := ax_iconst mt127 dX11_lays_112 ic_2
theorem s127_113 : aW d 127 113 [l0, l1, l2, l3, l4, l5, l6, .int a, l8, l9] S h Q = aW d 127 115 [l0, l1, l2, l3, l4, l5, l6, .int a, l8, l9] (.int a :: S) h Q := ax_iload mt127 dX11_lays_113 rfl
theorem s127_115 : aW d 127 115 L (.int b :: .int a :: S) h Q = aW d 127 116 L (.int (a * b) :: S) h Q := ax_imul mt127 dX11_lays_115
theorem s127_116 : aW d 127 116 L (.int b :: .int a :: S) h Q = aW d 127 117 L (.int (a + b) :: S) h Q := ax_iadd mt127 dX11_lays_116
theorem s127_117 : aW d 127 117 L S h Q = aW d 127 118 L (.int (nI 1) :: S) h Q := ax_iconst mt127 dX11_lays_117 ic_1
theorem s127_118 : aW d 127 118 L (.int b :: .int a :: S) h Q = aW d 127 119 L (.int (a + b) :: S) h Q := ax_iadd mt127 dX11_lays_118
theorem s127_119 : aW d 127 119 L (.int a :: .ref o :: S) h Q = (inb a (aI h o) ∧ aW d 127 120 L (.int (gI h o a.toNatClampNeg) :: S) h Q) := ax_iald mt127 dX11_lays_119
theorem s127_120 : aW d 127 120 [l0, l1, l2, l3, l4, l5, l6, l7, l8, l9] (.int a :: S) h Q = aW d 127 122 [l0, l1, l2, l3, l4, l5, l6, l7, l8, .int a] S h Q := ax_istore mt127 dX11_lays_120 (Nat.le_of_ble_eq_true rfl) rfl
theorem s127_122 : aW d 127 122 [.ref o, l1, l2, l3, l4, l5, l6, l7, l8, l9] S h Q = aW d 127 123 [.ref o, l1, l2, l3, l4, l5, l6, l7, l8, l9] (.ref o :: S) h Q := ax_aload_n mt127 dX11_lays_122 rfl
theorem s127_123 (hT : gT h o = some (13, 14)) : aW d 127 123 L (.ref o :: S) h Q = (isRf (gR h o 1) = true ∧ aW d 127 126 L (gR h o 1 :: S) h Q) := ax_geta mt127 dX11_lays_123 (by decide) ft_45075 fk_45075 hT
theorem s127_126 : aW d 127 126 [l0, l1, l2, l3, l4, l5, l6, l7, .int a, l9] S h Q = aW d 127 128 [l0, l1, l2, l3, l4, l5, l6, l7, .int a, l9] (.int a :: S) h Q := ax_iload mt127 dX11_lays_126 rfl
theorem s127_128 (hT : gT h o = some (8, 12)) : aW (d + 1) 127 128 L (.int x0 :: .ref o :: []) h Q = aM d 44 (.ref o :: [.int x0]) h (fun v h1 => aW (d + 1) 127 131 L (ab_ps v []) h1 Q) := ax_invv mt127 dX11_lays_128 (by decide) ct_45213 (.inl rfl) mt44 ⟨⟨Nat.le_of_ble_eq_true rfl, Nat.le_of_ble_eq_true rfl, Nat.le_of_ble_eq_true rfl⟩, rfl, rfl, rfl⟩ hT
theorem s127_131 : aW d 127 131 L (.int a :: S) h Q = (if a = 0 then aW d 127 154 L S h Q else aW d 127 134 L S h Q) := ax_if_eq mt127 dX11_lays_131 (by decide)
theorem s127_134 : aW d 127 134 [l0, l1, l2, l3, l4, l5, l6, l7, l8, .int a] S h Q = aW d 127 136 [l0, l1, l2, l3, l4, l5, l6, l7, l8, .int a] (.int a :: S) h Q := ax_iload mt127 dX11_lays_134 rfl
theorem s127_136 : aW (d + 1) 127 136 L (.int x0 :: []) h Q = aM d 131 [.int x0] h (fun v h1 => aW (d + 1) 127 139 L (ab_ps v []) h1 Q) := ax_invs mt127 dX11_lays_136 (by decide) ct_45284 (.inl rfl) mt131 ⟨⟨Nat.le_of_ble_eq_true rfl, Nat.le_of_ble_eq_true rfl, Nat.le_of_ble_eq_true rfl⟩, rfl, rfl⟩
theorem s127_139 : aW d 127 139 L (.int a :: S) h Q = (if a = 0 then aW d 127 154 L S h Q else aW d 127 142 L S h Q) := ax_if_eq mt127 dX11_lays_139 (by decide)
theorem s127_142 : aW d 127 142 [.ref o, l1, l2, l3, l4, l5, l6, l7, l8, l9] S h Q = aW d 127 143 [.ref o, l1, l2, l3, l4, l5, l6, l7, l8, l9] (.ref o :: S) h Q := ax_aload_n mt127 dX11_lays_142 rfl
theorem s127_143 (hT : gT h o = some (13, 14)) : aW d 127 143 L (.ref o :: S) h Q = (isRf (gR h o 6) = true ∧ aW d 127 146 L (gR h o 6 :: S) h Q) := ax_geta mt127 dX11_lays_143 (by decide) ft_45106 fk_45106 hT
theorem s127_146 : aW d 127 146 [l0, l1, l2, l3, l4, l5, l6, l7, .int a, l9] S h Q = aW d 127 148 [l0, l1, l2, l3, l4, l5, l6, l7, .int a, l9] (.int a :: S) h Q := ax_iload mt127 dX11_lays_146 rfl
theorem s127_148 : aW d 127 148 [l0, l1, l2, l3, l4, l5, l6, l7, l8, .int a] S h Q = aW d 127 150 [l0, l1, l2, l3, l4, l5, l6, l7, l8, .int a] (.int a :: S) h Q := ax_iload mt127 dX11_lays_148 rfl
theorem s127_150 : aW d 127 150 L (.int b :: .int a :: .ref o :: S) h Q = (inb a (aJ h o) ∧ aW d 127 151 L S (pI h o a.toNatClampNeg b) Q) := ax_iast mt127 dX11_lays_150
theorem s127_151 : aW d 127 151 [l0, l1, l2, l3, l4, l5, .int a, l7, l8, l9] S h Q = aW d 127 154 [l0, l1, l2, l3, l4, l5, .int (a + nI 1), l7, l8, l9] S h Q := ax_iinc mt127 dX11_lays_151 rfl ic_1 rfl
theorem s127_154 : aW d 127 154 [l0, l1, l2, l3, l4, l5, l6, .int a, l8, l9] S h Q = aW d 127 157 [l0, l1, l2, l3, l4, l5, l6, .int (a + nI 1), l8, l9] S h Q := ax_iinc mt127 dX11_lays_154 rfl ic_1 rfl
theorem s127_157 : aW d 127 157 L S h Q = aW d 127 67 L S h Q := ax_goto mt127 dX11_lays_157 (by decide)
theorem s127_160 : aW d 127 160 [l0, l1, l2, l3, l4, l5, .int a, l7, l8, l9] S h Q = aW d 127 162 [l0, l1, l2, l3, l4, l5, .int a, l7, l8, l9] (.int a :: S) h Q := ax_iload mt127 dX11_lays_160 rfl
theorem s127_162 : aW d 127 162 L [.int a] h Q = Q (some (.int a)) h := ax_reti mt127 dX11_lays_162 rfl
theorem s127_26 : aW d 127 26 L S h Q = aW d 127 28 L (.int ((-2)) :: S) h Q := ax_bipush mt127 dX11_lays_26 bp_m2
theorem s127_28 : aW d 127 28 L [.int a] h Q = Q (some (.int a)) h := ax_reti mt127 dX11_lays_28 rfl
-- method 128: BufferRoom.taken(III)I
theorem dX11_taken_0 : decode cX11_taken 0 = .ok (.iload_n 3, 1) := by decide +kernel
theorem dX11_taken_1 : decode cX11_taken 1 = .ok (.bipush 6, 2) := by decide +kernel
theorem dX11_taken_3 : decode cX11_taken 3 = .ok (.if_icmp .ne 7, 3) := by decide +kernel
theorem dX11_taken_6 : decode cX11_taken 6 = .ok (.iconst 1, 1) := by decide +kernel
theorem dX11_taken_7 : decode cX11_taken 7 = .ok (.goto 4, 3) := by decide +kernel
theorem dX11_taken_10 : decode cX11_taken 10 = .ok (.iconst 0, 1) := by decide +kernel
theorem dX11_taken_11 : decode cX11_taken 11 = .ok (.istore 4, 2) := by decide +kernel
theorem dX11_taken_13 : decode cX11_taken 13 = .ok (.iload_n 1, 1) := by decide +kernel
theorem dX11_taken_14 : decode cX11_taken 14 = .ok (.ifCond .lt 20, 3) := by decide +kernel
theorem dX11_taken_17 : decode cX11_taken 17 = .ok (.iload_n 1, 1) := by decide +kernel
theorem dX11_taken_18 : decode cX11_taken 18 = .ok (.iconst 1, 1) := by decide +kernel
theorem dX11_taken_19 : decode cX11_taken 19 = .ok (.if_icmp .gt 15, 3) := by decide +kernel
theorem dX11_taken_22 : decode cX11_taken 22 = .ok (.iload 4, 2) := by decide +kernel
theorem dX11_taken_24 : decode cX11_taken 24 = .ok (.ifCond .ne 13, 3) := by decide +kernel
theorem dX11_taken_27 : decode cX11_taken 27 = .ok (.iload_n 3, 1) := by decide +kernel
theorem dX11_taken_28 : decode cX11_taken 28 = .ok (.invokestatic 287, 3) := by decide +kernel
theorem dX11_taken_31 : decode cX11_taken 31 = .ok (.ifCond .ne 6, 3) := by decide +kernel
theorem dX11_taken_34 : decode cX11_taken 34 = .ok (.bipush (-2), 2) := by decide +kernel
theorem dX11_taken_36 : decode cX11_taken 36 = .ok (.ireturn, 1) := by decide +kernel
theorem dX11_taken_37 : decode cX11_taken 37 = .ok (.iload_n 1, 1) := by decide +kernel
theorem dX11_taken_38 : decode cX11_taken 38 = .ok (.iconst 1, 1) := by decide +kernel
theorem dX11_taken_39 : decode cX11_taken 39 = .ok (.if_icmp .ne 37, 3) := by decide +kernel
theorem dX11_taken_42 : decode cX11_taken 42 = .ok (.aload_n 0, 1) := by decide +kernel
theorem dX11_taken_43 : decode cX11_taken 43 = .ok (.getfield 19, 3) := by decide +kernel
theorem dX11_taken_46 : decode cX11_taken 46 = .ok (.iload_n 2, 1) := by decide +kernel
theorem dX11_taken_47 : decode cX11_taken 47 = .ok (.invokevirtual 157, 3) := by decide +kernel
theorem dX11_taken_50 : decode cX11_taken 50 = .ok (.ifCond .ne 6, 3) := by decide +kernel
theorem dX11_taken_53 : decode cX11_taken 53 = .ok (.bipush (-11), 2) := by decide +kernel
theorem dX11_taken_55 : decode cX11_taken 55 = .ok (.ireturn, 1) := by decide +kernel
theorem dX11_taken_56 : decode cX11_taken 56 = .ok (.iload 4, 2) := by decide +kernel
theorem dX11_taken_58 : decode cX11_taken 58 = .ok (.ifCond .eq 15, 3) := by decide +kernel
theorem dX11_taken_61 : decode cX11_taken 61 = .ok (.aload_n 0, 1) := by decide +kernel
theorem dX11_taken_62 : decode cX11_taken 62 = .ok (.getfield 19, 3) := by decide +kernel
theorem dX11_taken_65 : decode cX11_taken 65 = .ok (.getfield 326, 3) := by decide +kernel
theorem dX11_taken_68 : decode cX11_taken 68 = .ok (.iload_n 2, 1) := by decide +kernel
theorem dX11_taken_69 : decode cX11_taken 69 = .ok (.iaload, 1) := by decide +kernel
theorem dX11_taken_70 : decode cX11_taken 70 = .ok (.goto 5, 3) := by decide +kernel
theorem dX11_taken_73 : decode cX11_taken 73 = .ok (.bipush (-13), 2) := by decide +kernel
theorem dX11_taken_75 : decode cX11_taken 75 = .ok (.ireturn, 1) := by decide +kernel
theorem dX11_taken_76 : decode cX11_taken 76 = .ok (.aload_n 0, 1) := by decide +kernel
theorem dX11_taken_77 : decode cX11_taken 77 = .ok (.getfield 19, 3) := by decide +kernel
theorem dX11_taken_80 : decode cX11_taken 80 = .ok (.iload_n 2, 1) := by decide +kernel
theorem dX11_taken_81 : decode cX11_taken 81 = .ok (.invokevirtual 181, 3) := by decide +kernel
theorem dX11_taken_84 : decode cX11_taken 84 = .ok (.ifCond .ne 6, 3) := by decide +kernel
theorem dX11_taken_87 : decode cX11_taken 87 = .ok (.bipush (-11), 2) := by decide +kernel
theorem dX11_taken_89 : decode cX11_taken 89 = .ok (.ireturn, 1) := by decide +kernel
theorem dX11_taken_90 : decode cX11_taken 90 = .ok (.iload 4, 2) := by decide +kernel
theorem dX11_taken_92 : decode cX11_taken 92 = .ok (.ifCond .ne 23, 3) := by decide +kernel
theorem dX11_taken_95 : decode cX11_taken 95 = .ok (.aload_n 0, 1) := by decide +kernel
theorem dX11_taken_96 : decode cX11_taken 96 = .ok (.getfield 19, 3) := by decide +kernel
theorem dX11_taken_99 : decode cX11_taken 99 = .ok (.getfield 187, 3) := by decide +kernel
theorem dX11_taken_102 : decode cX11_taken 102 = .ok (.iload_n 2, 1) := by decide +kernel
theorem dX11_taken_103 : decode cX11_taken 103 = .ok (.iaload, 1) := by decide +kernel
theorem dX11_taken_104 : decode cX11_taken 104 = .ok (.iload_n 3, 1) := by decide +kernel
theorem dX11_taken_105 : decode cX11_taken 105 = .ok (.invokestatic 329, 3) := by decide +kernel
theorem dX11_taken_108 : decode cX11_taken 108 = .ok (.ifCond .eq 7, 3) := by decide +kernel
theorem dX11_taken_111 : decode cX11_taken 111 = .ok (.iload_n 2, 1) := by decide +kernel
theorem dX11_taken_112 : decode cX11_taken 112 = .ok (.goto 5, 3) := by decide +kernel
theorem dX11_taken_115 : decode cX11_taken 115 = .ok (.bipush (-13), 2) := by decide +kernel
theorem dX11_taken_117 : decode cX11_taken 117 = .ok (.ireturn, 1) := by decide +kernel
theorem s128_0 : aW d 128 0 [l0, l1, l2, .int a, l4] S h Q = aW d 128 1 [l0, l1, l2, .int a, l4] (.int a :: S) h Q := ax_iload_n mt128 dX11_taken_0 rfl
theorem s128_1 : aW d 128 1 L S h Q = aW d 128 3 L (.int (nI 6) :: S) h Q := ax_bipush mt128 dX11_taken_1 bp_6
theorem s128_3 : aW d 128 3 L (.int b :: .int a :: S) h Q = (if a = b then aW d 128 6 L S h Q else aW d 128 10 L S h Q) := ax_icmp_ne mt128 dX11_taken_3 (by decide)
theorem s128_6 : aW d 128 6 L S h Q = aW d 128 7 L (.int (nI 1) :: S) h Q := ax_iconst mt128 dX11_taken_6 ic_1
theorem s128_7 : aW d 128 7 L S h Q = aW d 128 11 L S h Q := ax_goto mt128 dX11_taken_7 (by decide)
theorem s128_11 : aW d 128 11 [l0, l1, l2, l3, l4] (.int a :: S) h Q = aW d 128 13 [l0, l1, l2, l3, .int a] S h Q := ax_istore mt128 dX11_taken_11 (Nat.le_of_ble_eq_true rfl) rfl
theorem s128_13 : aW d 128 13 [l0, .int a, l2, l3, l4] S h Q = aW d 128 14 [l0, .int a, l2, l3, l4] (.int a :: S) h Q := ax_iload_n mt128 dX11_taken_13 rfl
theorem s128_14 : aW d 128 14 L (.int a :: S) h Q = (if a < 0 then aW d 128 34 L S h Q else aW d 128 17 L S h Q) := ax_if_lt mt128 dX11_taken_14 (by decide)
theorem s128_17 : aW d 128 17 [l0, .int a, l2, l3, l4] S h Q = aW d 128 18 [l0, .int a, l2, l3, l4] (.int a :: S) h Q := ax_iload_n mt128 dX11_taken_17 rfl
theorem s128_18 : aW d 128 18 L S h Q = aW d 128 19 L (.int (nI 1) :: S) h Q := ax_iconst mt128 dX11_taken_18 ic_1
theorem s128_19 : aW d 128 19 L (.int b :: .int a :: S) h Q = (if b < a then aW d 128 34 L S h Q else aW d 128 22 L S h Q) := ax_icmp_gt mt128 dX11_taken_19 (by decide)
theorem s128_22 : aW d 128 22 [l0, l1, l2, l3, .int a] S h Q = aW d 128 24 [l0, l1, l2, l3, .int a] (.int a :: S) h Q := ax_iload mt128 dX11_taken_22 rfl
theorem s128_24 : aW d 128 24 L (.int a :: S) h Q = (if a = 0 then aW d 128 27 L S h Q else aW d 128 37 L S h Q) := ax_if_ne mt128 dX11_taken_24 (by decide)
theorem s128_27 : aW d 128 27 [l0, l1, l2, .int a, l4] S h Q = aW d 128 28 [l0, l1, l2, .int a, l4] (.int a :: S) h Q := ax_iload_n mt128 dX11_taken_27 rfl
theorem s128_28 : aW (d + 1) 128 28 L (.int x0 :: []) h Q = aM d 20 [.int x0] h (fun v h1 => aW (d + 1) 128 31 L (ab_ps v []) h1 Q) := ax_invs mt128 dX11_taken_28 (by decide) ct_45343 (.inl rfl) mt20 ⟨⟨Nat.le_of_ble_eq_true rfl, Nat.le_of_ble_eq_true rfl, Nat.le_of_ble_eq_true rfl⟩, rfl, rfl⟩
theorem s128_31 : aW d 128 31 L (.int a :: S) h Q = (if a = 0 then aW d 128 34 L S h Q else aW d 128 37 L S h Q) := ax_if_ne mt128 dX11_taken_31 (by decide)
theorem s128_37 : aW d 128 37 [l0, .int a, l2, l3, l4] S h Q = aW d 128 38 [l0, .int a, l2, l3, l4] (.int a :: S) h Q := ax_iload_n mt128 dX11_taken_37 rfl
theorem s128_38 : aW d 128 38 L S h Q = aW d 128 39 L (.int (nI 1) :: S) h Q := ax_iconst mt128 dX11_taken_38 ic_1
theorem s128_39 : aW d 128 39 L (.int b :: .int a :: S) h Q = (if a = b then aW d 128 42 L S h Q else aW d 128 76 L S h Q) := ax_icmp_ne mt128 dX11_taken_39 (by decide)
theorem s128_42 : aW d 128 42 [.ref o, l1, l2, l3, l4] S h Q = aW d 128 43 [.ref o, l1, l2, l3, l4] (.ref o :: S) h Q := ax_aload_n mt128 dX11_taken_42 rfl
theorem s128_43 (hT : gT h o = some (13, 14)) : aW d 128 43 L (.ref o :: S) h Q = (isRf (gR h o 1) = true ∧ aW d 128 46 L (gR h o 1 :: S) h Q) := ax_geta mt128 dX11_taken_43 (by decide) ft_45075 fk_45075 hT
theorem s128_46 : aW d 128 46 [l0, l1, .int a, l3, l4] S h Q = aW d 128 47 [l0, l1, .int a, l3, l4] (.int a :: S) h Q := ax_iload_n mt128 dX11_taken_46 rfl
theorem s128_47 (hT : gT h o = some (8, 12)) : aW (d + 1) 128 47 L (.int x0 :: .ref o :: []) h Q = aM d 44 (.ref o :: [.int x0]) h (fun v h1 => aW (d + 1) 128 50 L (ab_ps v []) h1 Q) := ax_invv mt128 dX11_taken_47 (by decide) ct_45213 (.inl rfl) mt44 ⟨⟨Nat.le_of_ble_eq_true rfl, Nat.le_of_ble_eq_true rfl, Nat.le_of_ble_eq_true rfl⟩, rfl, rfl, rfl⟩ hT
theorem s128_50 : aW d 128 50 L (.int a :: S) h Q = (if a = 0 then aW d 128 53 L S h Q else aW d 128 56 L S h Q) := ax_if_ne mt128 dX11_taken_50 (by decide)
theorem s128_53 : aW d 128 53 L S h Q = aW d 128 55 L (.int ((-11)) :: S) h Q := ax_bipush mt128 dX11_taken_53 bp_m11
theorem s128_55 : aW d 128 55 L [.int a] h Q = Q (some (.int a)) h := ax_reti mt128 dX11_taken_55 rfl
theorem s128_56 : aW d 128 56 [l0, l1, l2, l3, .int a] S h Q = aW d 128 58 [l0, l1, l2, l3, .int a] (.int a :: S) h Q := ax_iload mt128 dX11_taken_56 rfl
theorem s128_58 : aW d 128 58 L (.int a :: S) h Q = (if a = 0 then aW d 128 73 L S h Q else aW d 128 61 L S h Q) := ax_if_eq mt128 dX11_taken_58 (by decide)
theorem s128_61 : aW d 128 61 [.ref o, l1, l2, l3, l4] S h Q = aW d 128 62 [.ref o, l1, l2, l3, l4] (.ref o :: S) h Q := ax_aload_n mt128 dX11_taken_61 rfl
theorem s128_62 (hT : gT h o = some (13, 14)) : aW d 128 62 L (.ref o :: S) h Q = (isRf (gR h o 1) = true ∧ aW d 128 65 L (gR h o 1 :: S) h Q) := ax_geta mt128 dX11_taken_62 (by decide) ft_45075 fk_45075 hT
theorem s128_65 (hT : gT h o = some (8, 12)) : aW d 128 65 L (.ref o :: S) h Q = (isRf (gR h o 0) = true ∧ aW d 128 68 L (gR h o 0 :: S) h Q) := ax_geta mt128 dX11_taken_65 (by decide) ft_45382 fk_45382 hT
theorem s128_68 : aW d 128 68 [l0, l1, .int a, l3, l4] S h Q = aW d 128 69 [l0, l1, .int a, l3, l4] (.int a :: S) h Q := ax_iload_n mt128 dX11_taken_68 rfl
theorem s128_69 : aW d 128 69 L (.int a :: .ref o :: S) h Q = (inb a (aI h o) ∧ aW d 128 70 L (.int (gI h o a.toNatClampNeg) :: S) h Q) := ax_iald mt128 dX11_taken_69
theorem s128_70 : aW d 128 70 L S h Q = aW d 128 75 L S h Q := ax_goto mt128 dX11_taken_70 (by decide)
theorem s128_75 : aW d 128 75 L [.int a] h Q = Q (some (.int a)) h := ax_reti mt128 dX11_taken_75 rfl
theorem s128_73 : aW d 128 73 L S h Q = aW d 128 75 L (.int ((-13)) :: S) h Q := ax_bipush mt128 dX11_taken_73 bp_m13
theorem s128_76 : aW d 128 76 [.ref o, l1, l2, l3, l4] S h Q = aW d 128 77 [.ref o, l1, l2, l3, l4] (.ref o :: S) h Q := ax_aload_n mt128 dX11_taken_76 rfl
theorem s128_77 (hT : gT h o = some (13, 14)) : aW d 128 77 L (.ref o :: S) h Q = (isRf (gR h o 1) = true ∧ aW d 128 80 L (gR h o 1 :: S) h Q) := ax_geta mt128 dX11_taken_77 (by decide) ft_45075 fk_45075 hT
theorem s128_80 : aW d 128 80 [l0, l1, .int a, l3, l4] S h Q = aW d 128 81 [l0, l1, .int a, l3, l4] (.int a :: S) h Q := ax_iload_n mt128 dX11_taken_80 rfl
theorem s128_81 (hT : gT h o = some (8, 12)) : aW (d + 1) 128 81 L (.int x0 :: .ref o :: []) h Q = aM d 45 (.ref o :: [.int x0]) h (fun v h1 => aW (d + 1) 128 84 L (ab_ps v []) h1 Q) := ax_invv mt128 dX11_taken_81 (by decide) ct_45237 (.inl rfl) mt45 ⟨⟨Nat.le_of_ble_eq_true rfl, Nat.le_of_ble_eq_true rfl, Nat.le_of_ble_eq_true rfl⟩, rfl, rfl, rfl⟩ hT
theorem s128_84 : aW d 128 84 L (.int a :: S) h Q = (if a = 0 then aW d 128 87 L S h Q else aW d 128 90 L S h Q) := ax_if_ne mt128 dX11_taken_84 (by decide)
theorem s128_87 : aW d 128 87 L S h Q = aW d 128 89 L (.int ((-11)) :: S) h Q := ax_bipush mt128 dX11_taken_87 bp_m11
theorem s128_89 : aW d 128 89 L [.int a] h Q = Q (some (.int a)) h := ax_reti mt128 dX11_taken_89 rfl
theorem s128_90 : aW d 128 90 [l0, l1, l2, l3, .int a] S h Q = aW d 128 92 [l0, l1, l2, l3, .int a] (.int a :: S) h Q := ax_iload mt128 dX11_taken_90 rfl
theorem s128_92 : aW d 128 92 L (.int a :: S) h Q = (if a = 0 then aW d 128 95 L S h Q else aW d 128 115 L S h Q) := ax_if_ne mt128 dX11_taken_92 (by decide)
theorem s128_95 : aW d 128 95 [.ref o, l1, l2, l3, l4] S h Q = aW d 128 96 [.ref o, l1, l2, l3, l4] (.ref o :: S) h Q := ax_aload_n mt128 dX11_taken_95 rfl
theorem s128_96 (hT : gT h o = some (13, 14)) : aW d 128 96 L (.ref o :: S) h Q = (isRf (gR h o 1) = true ∧ aW d 128 99 L (gR h o 1 :: S) h Q) := ax_geta mt128 dX11_taken_96 (by decide) ft_45075 fk_45075 hT
theorem s128_99 (hT : gT h o = some (8, 12)) : aW d 128 99 L (.ref o :: S) h Q = (isRf (gR h o 7) = true ∧ aW d 128 102 L (gR h o 7 :: S) h Q) := ax_geta mt128 dX11_taken_99 (by decide) ft_45243 fk_45243 hT
theorem s128_102 : aW d 128 102 [l0, l1, .int a, l3, l4] S h Q = aW d 128 103 [l0, l1, .int a, l3, l4] (.int a :: S) h Q := ax_iload_n mt128 dX11_taken_102 rfl
theorem s128_103 : aW d 128 103 L (.int a :: .ref o :: S) h Q = (inb a (aI h o) ∧ aW d 128 104 L (.int (gI h o a.toNatClampNeg) :: S) h Q) := ax_iald mt128 dX11_taken_103
theorem s128_104 : aW d 128 104 [l0, l1, l2, .int a, l4] S h Q = aW d 128 105 [l0, l1, l2, .int a, l4] (.int a :: S) h Q := ax_iload_n mt128 dX11_taken_104 rfl
theorem s128_105 : aW (d + 1) 128 105 L (.int x1 :: .int x0 :: []) h Q = aM d 21 [.int x0, .int x1] h (fun v h1 => aW (d + 1) 128 108 L (ab_ps v []) h1 Q) := ax_invs mt128 dX11_taken_105 (by decide) ct_45385 (.inl rfl) mt21 ⟨⟨Nat.le_of_ble_eq_true rfl, Nat.le_of_ble_eq_true rfl, Nat.le_of_ble_eq_true rfl⟩, rfl, rfl⟩
theorem s128_108 : aW d 128 108 L (.int a :: S) h Q = (if a = 0 then aW d 128 115 L S h Q else aW d 128 111 L S h Q) := ax_if_eq mt128 dX11_taken_108 (by decide)
theorem s128_111 : aW d 128 111 [l0, l1, .int a, l3, l4] S h Q = aW d 128 112 [l0, l1, .int a, l3, l4] (.int a :: S) h Q := ax_iload_n mt128 dX11_taken_111 rfl
theorem s128_112 : aW d 128 112 L S h Q = aW d 128 117 L S h Q := ax_goto mt128 dX11_taken_112 (by decide)
theorem s128_117 : aW d 128 117 L [.int a] h Q = Q (some (.int a)) h := ax_reti mt128 dX11_taken_117 rfl
theorem s128_115 : aW d 128 115 L S h Q = aW d 128 117 L (.int ((-13)) :: S) h Q := ax_bipush mt128 dX11_taken_115 bp_m13
theorem s128_34 : aW d 128 34 L S h Q = aW d 128 36 L (.int ((-2)) :: S) h Q := ax_bipush mt128 dX11_taken_34 bp_m2
theorem s128_36 : aW d 128 36 L [.int a] h Q = Q (some (.int a)) h := ax_reti mt128 dX11_taken_36 rfl
theorem s128_10 : aW d 128 10 L S h Q = aW d 128 11 L (.int (nI 0) :: S) h Q := ax_iconst mt128 dX11_taken_10 ic_0
-- method 129: BufferRoom.isSheet(I)Z
theorem dX11_isSheet_0 : decode cX11_isSheet 0 = .ok (.iload_n 0, 1) := by decide +kernel
theorem dX11_isSheet_1 : decode cX11_isSheet 1 = .ok (.ifCond .lt 12, 3) := by decide +kernel
theorem dX11_isSheet_4 : decode cX11_isSheet 4 = .ok (.iload_n 0, 1) := by decide +kernel
theorem dX11_isSheet_5 : decode cX11_isSheet 5 = .ok (.iconst 4, 1) := by decide +kernel
theorem dX11_isSheet_6 : decode cX11_isSheet 6 = .ok (.if_icmp .ge 7, 3) := by decide +kernel
theorem dX11_isSheet_9 : decode cX11_isSheet 9 = .ok (.iconst 1, 1) := by decide +kernel
theorem dX11_isSheet_10 : decode cX11_isSheet 10 = .ok (.goto 4, 3) := by decide +kernel
theorem dX11_isSheet_13 : decode cX11_isSheet 13 = .ok (.iconst 0, 1) := by decide +kernel
theorem dX11_isSheet_14 : decode cX11_isSheet 14 = .ok (.ireturn, 1) := by decide +kernel
theorem s129_0 : aW d 129 0 [.int a] S h Q = aW d 129 1 [.int a] (.int a :: S) h Q := ax_iload_n mt129 dX11_isSheet_0 rfl
theorem s129_1 : aW d 129 1 L (.int a :: S) h Q = (if a < 0 then aW d 129 13 L S h Q else aW d 129 4 L S h Q) := ax_if_lt mt129 dX11_isSheet_1 (by decide)
theorem s129_4 : aW d 129 4 [.int a] S h Q = aW d 129 5 [.int a] (.int a :: S) h Q := ax_iload_n mt129 dX11_isSheet_4 rfl
theorem s129_5 : aW d 129 5 L S h Q = aW d 129 6 L (.int (nI 4) :: S) h Q := ax_iconst mt129 dX11_isSheet_5 ic_4
theorem s129_6 : aW d 129 6 L (.int b :: .int a :: S) h Q = (if a < b then aW d 129 9 L S h Q else aW d 129 13 L S h Q) := ax_icmp_ge mt129 dX11_isSheet_6 (by decide)
theorem s129_9 : aW d 129 9 L S h Q = aW d 129 10 L (.int (nI 1) :: S) h Q := ax_iconst mt129 dX11_isSheet_9 ic_1
theorem s129_10 : aW d 129 10 L S h Q = aW d 129 14 L S h Q := ax_goto mt129 dX11_isSheet_10 (by decide)
theorem s129_14 : aW d 129 14 L [.int a] h Q = (b01 a ∧ Q (some (.int a)) h) := ax_retz mt129 dX11_isSheet_14 rfl
theorem s129_13 : aW d 129 13 L S h Q = aW d 129 14 L (.int (nI 0) :: S) h Q := ax_iconst mt129 dX11_isSheet_13 ic_0
-- method 130: BufferRoom.isSort(I)Z
theorem dX11_isSort_0 : decode cX11_isSort 0 = .ok (.iload_n 0, 1) := by decide +kernel
theorem dX11_isSort_1 : decode cX11_isSort 1 = .ok (.ifCond .lt 12, 3) := by decide +kernel
theorem dX11_isSort_4 : decode cX11_isSort 4 = .ok (.iload_n 0, 1) := by decide +kernel
theorem dX11_isSort_5 : decode cX11_isSort 5 = .ok (.iconst 2, 1) := by decide +kernel
theorem dX11_isSort_6 : decode cX11_isSort 6 = .ok (.if_icmp .gt 7, 3) := by decide +kernel
theorem dX11_isSort_9 : decode cX11_isSort 9 = .ok (.iconst 1, 1) := by decide +kernel
theorem dX11_isSort_10 : decode cX11_isSort 10 = .ok (.goto 4, 3) := by decide +kernel
theorem dX11_isSort_13 : decode cX11_isSort 13 = .ok (.iconst 0, 1) := by decide +kernel
theorem dX11_isSort_14 : decode cX11_isSort 14 = .ok (.ireturn, 1) := by decide +kernel
theorem s130_0 : aW d 130 0 [.int a] S h Q = aW d 130 1 [.int a] (.int a :: S) h Q := ax_iload_n mt130 dX11_isSort_0 rfl
theorem s130_1 : aW d 130 1 L (.int a :: S) h Q = (if a < 0 then aW d 130 13 L S h Q else aW d 130 4 L S h Q) := ax_if_lt mt130 dX11_isSort_1 (by decide)
theorem s130_4 : aW d 130 4 [.int a] S h Q = aW d 130 5 [.int a] (.int a :: S) h Q := ax_iload_n mt130 dX11_isSort_4 rfl
theorem s130_5 : aW d 130 5 L S h Q = aW d 130 6 L (.int (nI 2) :: S) h Q := ax_iconst mt130 dX11_isSort_5 ic_2
theorem s130_6 : aW d 130 6 L (.int b :: .int a :: S) h Q = (if b < a then aW d 130 13 L S h Q else aW d 130 9 L S h Q) := ax_icmp_gt mt130 dX11_isSort_6 (by decide)
theorem s130_9 : aW d 130 9 L S h Q = aW d 130 10 L (.int (nI 1) :: S) h Q := ax_iconst mt130 dX11_isSort_9 ic_1
theorem s130_10 : aW d 130 10 L S h Q = aW d 130 14 L S h Q := ax_goto mt130 dX11_isSort_10 (by decide)
theorem s130_14 : aW d 130 14 L [.int a] h Q = (b01 a ∧ Q (some (.int a)) h) := ax_retz mt130 dX11_isSort_14 rfl
theorem s130_13 : aW d 130 13 L S h Q = aW d 130 14 L (.int (nI 0) :: S) h Q := ax_iconst mt130 dX11_isSort_13 ic_0
-- method 131: BufferRoom.isPlanned(I)Z
theorem dX11_isPlanned_0 : decode cX11_isPlanned 0 = .ok (.iload_n 0, 1) := by decide +kernel
theorem dX11_isPlanned_1 : decode cX11_isPlanned 1 = .ok (.iconst (-1), 1) := by decide +kernel
theorem dX11_isPlanned_2 : decode cX11_isPlanned 2 = .ok (.if_icmp .lt 13, 3) := by decide +kernel
theorem dX11_isPlanned_5 : decode cX11_isPlanned 5 = .ok (.iload_n 0, 1) := by decide +kernel
theorem dX11_isPlanned_6 : decode cX11_isPlanned 6 = .ok (.ldc 238, 2) := by decide +kernel
theorem dX11_isPlanned_8 : decode cX11_isPlanned 8 = .ok (.if_icmp .ge 7, 3) := by decide +kernel
theorem dX11_isPlanned_11 : decode cX11_isPlanned 11 = .ok (.iconst 1, 1) := by decide +kernel
theorem dX11_isPlanned_12 : decode cX11_isPlanned 12 = .ok (.goto 4, 3) := by decide +kernel
theorem dX11_isPlanned_15 : decode cX11_isPlanned 15 = .ok (.iconst 0, 1) := by decide +kernel
theorem dX11_isPlanned_16 : decode cX11_isPlanned 16 = .ok (.ireturn, 1) := by decide +kernel
theorem s131_0 : aW d 131 0 [.int a] S h Q = aW d 131 1 [.int a] (.int a :: S) h Q := ax_iload_n mt131 dX11_isPlanned_0 rfl
theorem s131_1 : aW d 131 1 L S h Q = aW d 131 2 L (.int ((-1)) :: S) h Q := ax_iconst mt131 dX11_isPlanned_1 ic_m1
theorem s131_2 : aW d 131 2 L (.int b :: .int a :: S) h Q = (if a < b then aW d 131 15 L S h Q else aW d 131 5 L S h Q) := ax_icmp_lt mt131 dX11_isPlanned_2 (by decide)
theorem s131_5 : aW d 131 5 [.int a] S h Q = aW d 131 6 [.int a] (.int a :: S) h Q := ax_iload_n mt131 dX11_isPlanned_5 rfl
theorem s131_6 : aW d 131 6 L S h Q = aW d 131 8 L (.int 100000 :: S) h Q := ax_ldc mt131 dX11_isPlanned_6 (by decide) kt_45294
theorem s131_8 : aW d 131 8 L (.int b :: .int a :: S) h Q = (if a < b then aW d 131 11 L S h Q else aW d 131 15 L S h Q) := ax_icmp_ge mt131 dX11_isPlanned_8 (by decide)
theorem s131_11 : aW d 131 11 L S h Q = aW d 131 12 L (.int (nI 1) :: S) h Q := ax_iconst mt131 dX11_isPlanned_11 ic_1
theorem s131_12 : aW d 131 12 L S h Q = aW d 131 16 L S h Q := ax_goto mt131 dX11_isPlanned_12 (by decide)
theorem s131_16 : aW d 131 16 L [.int a] h Q = (b01 a ∧ Q (some (.int a)) h) := ax_retz mt131 dX11_isPlanned_16 rfl
theorem s131_15 : aW d 131 15 L S h Q = aW d 131 16 L (.int (nI 0) :: S) h Q := ax_iconst mt131 dX11_isPlanned_15 ic_0
-- method 132: BufferRoom.shareCells(IIII)Z
theorem dX11_shareCells_0 : decode cX11_shareCells 0 = .ok (.iload_n 1, 1) := by decide +kernel
theorem dX11_shareCells_1 : decode cX11_shareCells 1 = .ok (.ifCond .le 25, 3) := by decide +kernel
theorem dX11_shareCells_4 : decode cX11_shareCells 4 = .ok (.iload_n 3, 1) := by decide +kernel
theorem dX11_shareCells_5 : decode cX11_shareCells 5 = .ok (.ifCond .le 21, 3) := by decide +kernel
theorem dX11_shareCells_8 : decode cX11_shareCells 8 = .ok (.iload_n 0, 1) := by decide +kernel
theorem dX11_shareCells_9 : decode cX11_shareCells 9 = .ok (.iload_n 2, 1) := by decide +kernel
theorem dX11_shareCells_10 : decode cX11_shareCells 10 = .ok (.iload_n 3, 1) := by decide +kernel
theorem dX11_shareCells_11 : decode cX11_shareCells 11 = .ok (.iadd, 1) := by decide +kernel
theorem dX11_shareCells_12 : decode cX11_shareCells 12 = .ok (.if_icmp .ge 14, 3) := by decide +kernel
theorem dX11_shareCells_15 : decode cX11_shareCells 15 = .ok (.iload_n 2, 1) := by decide +kernel
theorem dX11_shareCells_16 : decode cX11_shareCells 16 = .ok (.iload_n 0, 1) := by decide +kernel
theorem dX11_shareCells_17 : decode cX11_shareCells 17 = .ok (.iload_n 1, 1) := by decide +kernel
theorem dX11_shareCells_18 : decode cX11_shareCells 18 = .ok (.iadd, 1) := by decide +kernel
theorem dX11_shareCells_19 : decode cX11_shareCells 19 = .ok (.if_icmp .ge 7, 3) := by decide +kernel
theorem dX11_shareCells_22 : decode cX11_shareCells 22 = .ok (.iconst 1, 1) := by decide +kernel
theorem dX11_shareCells_23 : decode cX11_shareCells 23 = .ok (.goto 4, 3) := by decide +kernel
theorem dX11_shareCells_26 : decode cX11_shareCells 26 = .ok (.iconst 0, 1) := by decide +kernel
theorem dX11_shareCells_27 : decode cX11_shareCells 27 = .ok (.ireturn, 1) := by decide +kernel
theorem s132_0 : aW d 132 0 [l0, .int a, l2, l3] S h Q = aW d 132 1 [l0, .int a, l2, l3] (.int a :: S) h Q := ax_iload_n mt132 dX11_shareCells_0 rfl
theorem s132_1 : aW d 132 1 L (.int a :: S) h Q = (if 0 < a then aW d 132 4 L S h Q else aW d 132 26 L S h Q) := ax_if_le mt132 dX11_shareCells_1 (by decide)
theorem s132_4 : aW d 132 4 [l0, l1, l2, .int a] S h Q = aW d 132 5 [l0, l1, l2, .int a] (.int a :: S) h Q := ax_iload_n mt132 dX11_shareCells_4 rfl
theorem s132_5 : aW d 132 5 L (.int a :: S) h Q = (if 0 < a then aW d 132 8 L S h Q else aW d 132 26 L S h Q) := ax_if_le mt132 dX11_shareCells_5 (by decide)
theorem s132_8 : aW d 132 8 [.int a, l1, l2, l3] S h Q = aW d 132 9 [.int a, l1, l2, l3] (.int a :: S) h Q := ax_iload_n mt132 dX11_shareCells_8 rfl
theorem s132_9 : aW d 132 9 [l0, l1, .int a, l3] S h Q = aW d 132 10 [l0, l1, .int a, l3] (.int a :: S) h Q := ax_iload_n mt132 dX11_shareCells_9 rfl
theorem s132_10 : aW d 132 10 [l0, l1, l2, .int a] S h Q = aW d 132 11 [l0, l1, l2, .int a] (.int a :: S) h Q := ax_iload_n mt132 dX11_shareCells_10 rfl
theorem s132_11 : aW d 132 11 L (.int b :: .int a :: S) h Q = aW d 132 12 L (.int (a + b) :: S) h Q := ax_iadd mt132 dX11_shareCells_11
theorem s132_12 : aW d 132 12 L (.int b :: .int a :: S) h Q = (if a < b then aW d 132 15 L S h Q else aW d 132 26 L S h Q) := ax_icmp_ge mt132 dX11_shareCells_12 (by decide)
theorem s132_15 : aW d 132 15 [l0, l1, .int a, l3] S h Q = aW d 132 16 [l0, l1, .int a, l3] (.int a :: S) h Q := ax_iload_n mt132 dX11_shareCells_15 rfl
theorem s132_16 : aW d 132 16 [.int a, l1, l2, l3] S h Q = aW d 132 17 [.int a, l1, l2, l3] (.int a :: S) h Q := ax_iload_n mt132 dX11_shareCells_16 rfl
theorem s132_17 : aW d 132 17 [l0, .int a, l2, l3] S h Q = aW d 132 18 [l0, .int a, l2, l3] (.int a :: S) h Q := ax_iload_n mt132 dX11_shareCells_17 rfl
theorem s132_18 : aW d 132 18 L (.int b :: .int a :: S) h Q = aW d 132 19 L (.int (a + b) :: S) h Q := ax_iadd mt132 dX11_shareCells_18
theorem s132_19 : aW d 132 19 L (.int b :: .int a :: S) h Q = (if a < b then aW d 132 22 L S h Q else aW d 132 26 L S h Q) := ax_icmp_ge mt132 dX11_shareCells_19 (by decide)
theorem s132_22 : aW d 132 22 L S h Q = aW d 132 23 L (.int (nI 1) :: S) h Q := ax_iconst mt132 dX11_shareCells_22 ic_1
theorem s132_23 : aW d 132 23 L S h Q = aW d 132 27 L S h Q := ax_goto mt132 dX11_shareCells_23 (by decide)
theorem s132_27 : aW d 132 27 L [.int a] h Q = (b01 a ∧ Q (some (.int a)) h) := ax_retz mt132 dX11_shareCells_27 rfl
theorem s132_26 : aW d 132 26 L S h Q = aW d 132 27 L (.int (nI 0) :: S) h Q := ax_iconst mt132 dX11_shareCells_26 ic_0
-- method 133: BufferRoom.begin()V
theorem dX11_begin_0 : decode cX11_begin 0 = .ok (.aload_n 0, 1) := by decide +kernel
theorem dX11_begin_1 : decode cX11_begin 1 = .ok (.getfield 32, 3) := by decide +kernel
theorem dX11_begin_4 : decode cX11_begin 4 = .ok (.iconst 0, 1) := by decide +kernel
theorem dX11_begin_5 : decode cX11_begin 5 = .ok (.putfield 301, 3) := by decide +kernel
theorem dX11_begin_8 : decode cX11_begin 8 = .ok (.iconst 0, 1) := by decide +kernel
theorem dX11_begin_9 : decode cX11_begin 9 = .ok (.istore_n 1, 1) := by decide +kernel
theorem dX11_begin_10 : decode cX11_begin 10 = .ok (.iload_n 1, 1) := by decide +kernel
theorem dX11_begin_11 : decode cX11_begin 11 = .ok (.bipush 12, 2) := by decide +kernel
theorem dX11_begin_13 : decode cX11_begin 13 = .ok (.if_icmp .ge 16, 3) := by decide +kernel
theorem dX11_begin_16 : decode cX11_begin 16 = .ok (.aload_n 0, 1) := by decide +kernel
theorem dX11_begin_17 : decode cX11_begin 17 = .ok (.getfield 50, 3) := by decide +kernel
theorem dX11_begin_20 : decode cX11_begin 20 = .ok (.iload_n 1, 1) := by decide +kernel
theorem dX11_begin_21 : decode cX11_begin 21 = .ok (.iconst (-1), 1) := by decide +kernel
theorem dX11_begin_22 : decode cX11_begin 22 = .ok (.iastore, 1) := by decide +kernel
theorem dX11_begin_23 : decode cX11_begin 23 = .ok (.iinc 1 1, 3) := by decide +kernel
theorem dX11_begin_26 : decode cX11_begin 26 = .ok (.goto (-16), 3) := by decide +kernel
theorem dX11_begin_29 : decode cX11_begin 29 = .ok (.aload_n 0, 1) := by decide +kernel
theorem dX11_begin_30 : decode cX11_begin 30 = .ok (.getfield 71, 3) := by decide +kernel
theorem dX11_begin_33 : decode cX11_begin 33 = .ok (.invokevirtual 277, 3) := by decide +kernel
theorem dX11_begin_36 : decode cX11_begin 36 = .ok (.aload_n 0, 1) := by decide +kernel
theorem dX11_begin_37 : decode cX11_begin 37 = .ok (.iconst 0, 1) := by decide +kernel
theorem dX11_begin_38 : decode cX11_begin 38 = .ok (.putfield 284, 3) := by decide +kernel
theorem dX11_begin_41 : decode cX11_begin 41 = .ok (.aload_n 0, 1) := by decide +kernel
theorem dX11_begin_42 : decode cX11_begin 42 = .ok (.invokevirtual 112, 3) := by decide +kernel
theorem dX11_begin_45 : decode cX11_begin 45 = .ok (.return_, 1) := by decide +kernel
theorem s133_0 : aW d 133 0 [.ref o, l1] S h Q = aW d 133 1 [.ref o, l1] (.ref o :: S) h Q := ax_aload_n mt133 dX11_begin_0 rfl
theorem s133_1 (hT : gT h o = some (13, 14)) : aW d 133 1 L (.ref o :: S) h Q = (isRf (gR h o 3) = true ∧ aW d 133 4 L (gR h o 3 :: S) h Q) := ax_geta mt133 dX11_begin_1 (by decide) ft_45088 fk_45088 hT
theorem s133_4 : aW d 133 4 L S h Q = aW d 133 5 L (.int (nI 0) :: S) h Q := ax_iconst mt133 dX11_begin_4 ic_0
theorem s133_5 (hT : gT h o = some (12, 9)) : aW d 133 5 L (.int a :: .ref o :: S) h Q = (b01 a ∧ aW d 133 8 L S (pI h o 2 a) Q) := ax_putz mt133 dX11_begin_5 (by decide) ft_45357 (fun q => fn_45357 q.1) fp_45357 hT
theorem s133_8 : aW d 133 8 L S h Q = aW d 133 9 L (.int (nI 0) :: S) h Q := ax_iconst mt133 dX11_begin_8 ic_0
theorem s133_9 : aW d 133 9 [l0, l1] (.int a :: S) h Q = aW d 133 10 [l0, .int a] S h Q := ax_istore_n mt133 dX11_begin_9 (Nat.le_of_ble_eq_true rfl) rfl
theorem s133_10 : aW d 133 10 [l0, .int a] S h Q = aW d 133 11 [l0, .int a] (.int a :: S) h Q := ax_iload_n mt133 dX11_begin_10 rfl
theorem s133_11 : aW d 133 11 L S h Q = aW d 133 13 L (.int (nI 12) :: S) h Q := ax_bipush mt133 dX11_begin_11 bp_12
theorem s133_13 : aW d 133 13 L (.int b :: .int a :: S) h Q = (if a < b then aW d 133 16 L S h Q else aW d 133 29 L S h Q) := ax_icmp_ge mt133 dX11_begin_13 (by decide)
theorem s133_16 : aW d 133 16 [.ref o, l1] S h Q = aW d 133 17 [.ref o, l1] (.ref o :: S) h Q := ax_aload_n mt133 dX11_begin_16 rfl
theorem s133_17 (hT : gT h o = some (13, 14)) : aW d 133 17 L (.ref o :: S) h Q = (isRf (gR h o 6) = true ∧ aW d 133 20 L (gR h o 6 :: S) h Q) := ax_geta mt133 dX11_begin_17 (by decide) ft_45106 fk_45106 hT
theorem s133_20 : aW d 133 20 [l0, .int a] S h Q = aW d 133 21 [l0, .int a] (.int a :: S) h Q := ax_iload_n mt133 dX11_begin_20 rfl
theorem s133_21 : aW d 133 21 L S h Q = aW d 133 22 L (.int ((-1)) :: S) h Q := ax_iconst mt133 dX11_begin_21 ic_m1
theorem s133_22 : aW d 133 22 L (.int b :: .int a :: .ref o :: S) h Q = (inb a (aJ h o) ∧ aW d 133 23 L S (pI h o a.toNatClampNeg b) Q) := ax_iast mt133 dX11_begin_22
theorem s133_23 : aW d 133 23 [l0, .int a] S h Q = aW d 133 26 [l0, .int (a + nI 1)] S h Q := ax_iinc mt133 dX11_begin_23 rfl ic_1 rfl
theorem s133_26 : aW d 133 26 L S h Q = aW d 133 10 L S h Q := ax_goto mt133 dX11_begin_26 (by decide)
theorem s133_29 : aW d 133 29 [.ref o, l1] S h Q = aW d 133 30 [.ref o, l1] (.ref o :: S) h Q := ax_aload_n mt133 dX11_begin_29 rfl
theorem s133_30 (hT : gT h o = some (13, 14)) : aW d 133 30 L (.ref o :: S) h Q = (isRf (gR h o 9) = true ∧ aW d 133 33 L (gR h o 9 :: S) h Q) := ax_geta mt133 dX11_begin_30 (by decide) ft_45127 fk_45127 hT
theorem s133_33 (hT : gT h o = some (3, 5)) : aW (d + 1) 133 33 L (.ref o :: []) h Q = aM d 1 (.ref o :: []) h (fun v h1 => aW (d + 1) 133 36 L (ab_ps v []) h1 Q) := ax_invv mt133 dX11_begin_33 (by decide) ct_45333 (.inl rfl) mt1 ⟨⟨Nat.le_of_ble_eq_true rfl, Nat.le_of_ble_eq_true rfl, Nat.le_of_ble_eq_true rfl⟩, rfl, rfl, rfl⟩ hT
theorem s133_36 : aW d 133 36 [.ref o, l1] S h Q = aW d 133 37 [.ref o, l1] (.ref o :: S) h Q := ax_aload_n mt133 dX11_begin_36 rfl
theorem s133_37 : aW d 133 37 L S h Q = aW d 133 38 L (.int (nI 0) :: S) h Q := ax_iconst mt133 dX11_begin_37 ic_0
theorem s133_38 (hT : gT h o = some (13, 14)) : aW d 133 38 L (.int a :: .ref o :: S) h Q = (b01 a ∧ aW d 133 41 L S (pI h o 11 a) Q) := ax_putz mt133 dX11_begin_38 (by decide) ft_45340 (fun q => fn_45340 q.1) fp_45340 hT
theorem s133_41 : aW d 133 41 [.ref o, l1] S h Q = aW d 133 42 [.ref o, l1] (.ref o :: S) h Q := ax_aload_n mt133 dX11_begin_41 rfl
theorem s133_42 (hT : gT h o = some (13, 14)) : aW (d + 1) 133 42 L (.ref o :: []) h Q = aM d 134 (.ref o :: []) h (fun v h1 => aW (d + 1) 133 45 L (ab_ps v []) h1 Q) := ax_invv mt133 dX11_begin_42 (by decide) ct_45168 (.inl rfl) mt134 ⟨⟨Nat.le_of_ble_eq_true rfl, Nat.le_of_ble_eq_true rfl, Nat.le_of_ble_eq_true rfl⟩, rfl, rfl, rfl⟩ hT
theorem s133_45 : aW d 133 45 L [] h Q = Q none h := ax_retv mt133 dX11_begin_45 rfl
-- method 134: BufferRoom.renew()V
theorem dX11_renew_0 : decode cX11_renew 0 = .ok (.aload_n 0, 1) := by decide +kernel
theorem dX11_renew_1 : decode cX11_renew 1 = .ok (.getfield 32, 3) := by decide +kernel
theorem dX11_renew_4 : decode cX11_renew 4 = .ok (.aload_n 0, 1) := by decide +kernel
theorem dX11_renew_5 : decode cX11_renew 5 = .ok (.getfield 19, 3) := by decide +kernel
theorem dX11_renew_8 : decode cX11_renew 8 = .ok (.aload_n 0, 1) := by decide +kernel
theorem dX11_renew_9 : decode cX11_renew 9 = .ok (.getfield 71, 3) := by decide +kernel
theorem dX11_renew_12 : decode cX11_renew 12 = .ok (.getfield 109, 3) := by decide +kernel
theorem dX11_renew_15 : decode cX11_renew 15 = .ok (.invokevirtual 332, 3) := by decide +kernel
theorem dX11_renew_18 : decode cX11_renew 18 = .ok (.aload_n 0, 1) := by decide +kernel
theorem dX11_renew_19 : decode cX11_renew 19 = .ok (.getfield 39, 3) := by decide +kernel
theorem dX11_renew_22 : decode cX11_renew 22 = .ok (.iconst 0, 1) := by decide +kernel
theorem dX11_renew_23 : decode cX11_renew 23 = .ok (.putfield 335, 3) := by decide +kernel
theorem dX11_renew_26 : decode cX11_renew 26 = .ok (.return_, 1) := by decide +kernel
theorem s134_0 : aW d 134 0 [.ref o] S h Q = aW d 134 1 [.ref o] (.ref o :: S) h Q := ax_aload_n mt134 dX11_renew_0 rfl
theorem s134_1 (hT : gT h o = some (13, 14)) : aW d 134 1 L (.ref o :: S) h Q = (isRf (gR h o 3) = true ∧ aW d 134 4 L (gR h o 3 :: S) h Q) := ax_geta mt134 dX11_renew_1 (by decide) ft_45088 fk_45088 hT
theorem s134_4 : aW d 134 4 [.ref o] S h Q = aW d 134 5 [.ref o] (.ref o :: S) h Q := ax_aload_n mt134 dX11_renew_4 rfl
theorem s134_5 (hT : gT h o = some (13, 14)) : aW d 134 5 L (.ref o :: S) h Q = (isRf (gR h o 1) = true ∧ aW d 134 8 L (gR h o 1 :: S) h Q) := ax_geta mt134 dX11_renew_5 (by decide) ft_45075 fk_45075 hT
theorem s134_8 : aW d 134 8 [.ref o] S h Q = aW d 134 9 [.ref o] (.ref o :: S) h Q := ax_aload_n mt134 dX11_renew_8 rfl
theorem s134_9 (hT : gT h o = some (13, 14)) : aW d 134 9 L (.ref o :: S) h Q = (isRf (gR h o 9) = true ∧ aW d 134 12 L (gR h o 9 :: S) h Q) := ax_geta mt134 dX11_renew_9 (by decide) ft_45127 fk_45127 hT
theorem s134_12 (hT : gT h o = some (3, 5)) : aW d 134 12 L (.ref o :: S) h Q = (isRf (gR h o 4) = true ∧ aW d 134 15 L (gR h o 4 :: S) h Q) := ax_geta mt134 dX11_renew_12 (by decide) ft_45165 fk_45165 hT
theorem s134_15 (hT : gT h o = some (12, 9)) : aW (d + 1) 134 15 L (.ref p1 :: .ref p0 :: .ref o :: []) h Q = aM d 82 (.ref o :: [.ref p0, .ref p1]) h (fun v h1 => aW (d + 1) 134 18 L (ab_ps v []) h1 Q) := ax_invv mt134 dX11_renew_15 (by decide) ct_45388 (.inl rfl) mt82 ⟨⟨Nat.le_of_ble_eq_true rfl, Nat.le_of_ble_eq_true rfl, Nat.le_of_ble_eq_true rfl⟩, rfl, rfl, rfl⟩ hT
theorem s134_18 : aW d 134 18 [.ref o] S h Q = aW d 134 19 [.ref o] (.ref o :: S) h Q := ax_aload_n mt134 dX11_renew_18 rfl
theorem s134_19 (hT : gT h o = some (13, 14)) : aW d 134 19 L (.ref o :: S) h Q = (isRf (gR h o 4) = true ∧ aW d 134 22 L (gR h o 4 :: S) h Q) := ax_geta mt134 dX11_renew_19 (by decide) ft_45095 fk_45095 hT
theorem s134_22 : aW d 134 22 L S h Q = aW d 134 23 L (.int (nI 0) :: S) h Q := ax_iconst mt134 dX11_renew_22 ic_0
theorem s134_23 (hT : gT h o = some (6, 4)) : aW d 134 23 L (.int a :: .ref o :: S) h Q = (b01 a ∧ aW d 134 26 L S (pI h o 0 a) Q) := ax_putz mt134 dX11_renew_23 (by decide) ft_45391 (fun q => fn_45391 q.1) fp_45391 hT
theorem s134_26 : aW d 134 26 L [] h Q = Q none h := ax_retv mt134 dX11_renew_26 rfl
-- method 135: BufferRoom.refusalOfPlace(I)I
theorem dX11_refusalOfPlace_0 : decode cX11_refusalOfPlace 0 = .ok (.iload_n 1, 1) := by decide +kernel
theorem dX11_refusalOfPlace_1 : decode cX11_refusalOfPlace 1 = .ok (.ifCond .lt 14, 3) := by decide +kernel
theorem dX11_refusalOfPlace_4 : decode cX11_refusalOfPlace 4 = .ok (.iload_n 1, 1) := by decide +kernel
theorem dX11_refusalOfPlace_5 : decode cX11_refusalOfPlace 5 = .ok (.aload_n 0, 1) := by decide +kernel
theorem dX11_refusalOfPlace_6 : decode cX11_refusalOfPlace 6 = .ok (.getfield 19, 3) := by decide +kernel
theorem dX11_refusalOfPlace_9 : decode cX11_refusalOfPlace 9 = .ok (.getfield 103, 3) := by decide +kernel
theorem dX11_refusalOfPlace_12 : decode cX11_refusalOfPlace 12 = .ok (.if_icmp .lt 6, 3) := by decide +kernel
theorem dX11_refusalOfPlace_15 : decode cX11_refusalOfPlace 15 = .ok (.bipush (-5), 2) := by decide +kernel
theorem dX11_refusalOfPlace_17 : decode cX11_refusalOfPlace 17 = .ok (.ireturn, 1) := by decide +kernel
theorem dX11_refusalOfPlace_18 : decode cX11_refusalOfPlace 18 = .ok (.aload_n 0, 1) := by decide +kernel
theorem dX11_refusalOfPlace_19 : decode cX11_refusalOfPlace 19 = .ok (.getfield 32, 3) := by decide +kernel
theorem dX11_refusalOfPlace_22 : decode cX11_refusalOfPlace 22 = .ok (.getfield 146, 3) := by decide +kernel
theorem dX11_refusalOfPlace_25 : decode cX11_refusalOfPlace 25 = .ok (.ifCond .eq 7, 3) := by decide +kernel
theorem dX11_refusalOfPlace_28 : decode cX11_refusalOfPlace 28 = .ok (.iconst 0, 1) := by decide +kernel
theorem dX11_refusalOfPlace_29 : decode cX11_refusalOfPlace 29 = .ok (.goto 5, 3) := by decide +kernel
theorem dX11_refusalOfPlace_32 : decode cX11_refusalOfPlace 32 = .ok (.bipush (-3), 2) := by decide +kernel
theorem dX11_refusalOfPlace_34 : decode cX11_refusalOfPlace 34 = .ok (.ireturn, 1) := by decide +kernel
theorem s135_0 : aW d 135 0 [l0, .int a] S h Q = aW d 135 1 [l0, .int a] (.int a :: S) h Q := ax_iload_n mt135 dX11_refusalOfPlace_0 rfl
theorem s135_1 : aW d 135 1 L (.int a :: S) h Q = (if a < 0 then aW d 135 15 L S h Q else aW d 135 4 L S h Q) := ax_if_lt mt135 dX11_refusalOfPlace_1 (by decide)
theorem s135_4 : aW d 135 4 [l0, .int a] S h Q = aW d 135 5 [l0, .int a] (.int a :: S) h Q := ax_iload_n mt135 dX11_refusalOfPlace_4 rfl
theorem s135_5 : aW d 135 5 [.ref o, l1] S h Q = aW d 135 6 [.ref o, l1] (.ref o :: S) h Q := ax_aload_n mt135 dX11_refusalOfPlace_5 rfl
theorem s135_6 (hT : gT h o = some (13, 14)) : aW d 135 6 L (.ref o :: S) h Q = (isRf (gR h o 1) = true ∧ aW d 135 9 L (gR h o 1 :: S) h Q) := ax_geta mt135 dX11_refusalOfPlace_6 (by decide) ft_45075 fk_45075 hT
theorem s135_9 (hT : gT h o = some (8, 12)) : aW d 135 9 L (.ref o :: S) h Q = aW d 135 12 L (.int (gI h o 6) :: S) h Q := ax_geti mt135 dX11_refusalOfPlace_9 (by decide) ft_45159 fk_45159 hT
theorem s135_12 : aW d 135 12 L (.int b :: .int a :: S) h Q = (if a < b then aW d 135 18 L S h Q else aW d 135 15 L S h Q) := ax_icmp_lt mt135 dX11_refusalOfPlace_12 (by decide)
theorem s135_18 : aW d 135 18 [.ref o, l1] S h Q = aW d 135 19 [.ref o, l1] (.ref o :: S) h Q := ax_aload_n mt135 dX11_refusalOfPlace_18 rfl
theorem s135_19 (hT : gT h o = some (13, 14)) : aW d 135 19 L (.ref o :: S) h Q = (isRf (gR h o 3) = true ∧ aW d 135 22 L (gR h o 3 :: S) h Q) := ax_geta mt135 dX11_refusalOfPlace_19 (by decide) ft_45088 fk_45088 hT
theorem s135_22 (hT : gT h o = some (12, 9)) : aW d 135 22 L (.ref o :: S) h Q = aW d 135 25 L (.int (gI h o 3) :: S) h Q := ax_geti mt135 dX11_refusalOfPlace_22 (by decide) ft_45202 fk_45202 hT
theorem s135_25 : aW d 135 25 L (.int a :: S) h Q = (if a = 0 then aW d 135 32 L S h Q else aW d 135 28 L S h Q) := ax_if_eq mt135 dX11_refusalOfPlace_25 (by decide)
theorem s135_28 : aW d 135 28 L S h Q = aW d 135 29 L (.int (nI 0) :: S) h Q := ax_iconst mt135 dX11_refusalOfPlace_28 ic_0
theorem s135_29 : aW d 135 29 L S h Q = aW d 135 34 L S h Q := ax_goto mt135 dX11_refusalOfPlace_29 (by decide)
theorem s135_34 : aW d 135 34 L [.int a] h Q = Q (some (.int a)) h := ax_reti mt135 dX11_refusalOfPlace_34 rfl
theorem s135_32 : aW d 135 32 L S h Q = aW d 135 34 L (.int ((-3)) :: S) h Q := ax_bipush mt135 dX11_refusalOfPlace_32 bp_m3
theorem s135_15 : aW d 135 15 L S h Q = aW d 135 17 L (.int ((-5)) :: S) h Q := ax_bipush mt135 dX11_refusalOfPlace_15 bp_m5
theorem s135_17 : aW d 135 17 L [.int a] h Q = Q (some (.int a)) h := ax_reti mt135 dX11_refusalOfPlace_17 rfl
-- method 136: BufferRoom.refusalOfBuffers(I)I
theorem dX11_refusalOfBuffers_0 : decode cX11_refusalOfBuffers 0 = .ok (.iload_n 1, 1) := by decide +kernel
theorem dX11_refusalOfBuffers_1 : decode cX11_refusalOfBuffers 1 = .ok (.invokestatic 115, 3) := by decide +kernel
theorem dX11_refusalOfBuffers_4 : decode cX11_refusalOfBuffers 4 = .ok (.ifCond .ne 6, 3) := by decide +kernel
theorem dX11_refusalOfBuffers_7 : decode cX11_refusalOfBuffers 7 = .ok (.bipush (-5), 2) := by decide +kernel
theorem dX11_refusalOfBuffers_9 : decode cX11_refusalOfBuffers 9 = .ok (.ireturn, 1) := by decide +kernel
theorem dX11_refusalOfBuffers_10 : decode cX11_refusalOfBuffers 10 = .ok (.aload_n 0, 1) := by decide +kernel
theorem dX11_refusalOfBuffers_11 : decode cX11_refusalOfBuffers 11 = .ok (.getfield 80, 3) := by decide +kernel
theorem dX11_refusalOfBuffers_14 : decode cX11_refusalOfBuffers 14 = .ok (.iload_n 1, 1) := by decide +kernel
theorem dX11_refusalOfBuffers_15 : decode cX11_refusalOfBuffers 15 = .ok (.aaload, 1) := by decide +kernel
theorem dX11_refusalOfBuffers_16 : decode cX11_refusalOfBuffers 16 = .ok (.astore_n 2, 1) := by decide +kernel
theorem dX11_refusalOfBuffers_17 : decode cX11_refusalOfBuffers 17 = .ok (.aload_n 2, 1) := by decide +kernel
theorem dX11_refusalOfBuffers_18 : decode cX11_refusalOfBuffers 18 = .ok (.getfield 119, 3) := by decide +kernel
theorem dX11_refusalOfBuffers_21 : decode cX11_refusalOfBuffers 21 = .ok (.iconst (-1), 1) := by decide +kernel
theorem dX11_refusalOfBuffers_22 : decode cX11_refusalOfBuffers 22 = .ok (.if_icmp .ne 6, 3) := by decide +kernel
theorem dX11_refusalOfBuffers_25 : decode cX11_refusalOfBuffers 25 = .ok (.bipush (-11), 2) := by decide +kernel
theorem dX11_refusalOfBuffers_27 : decode cX11_refusalOfBuffers 27 = .ok (.ireturn, 1) := by decide +kernel
theorem dX11_refusalOfBuffers_28 : decode cX11_refusalOfBuffers 28 = .ok (.aload_n 2, 1) := by decide +kernel
theorem dX11_refusalOfBuffers_29 : decode cX11_refusalOfBuffers 29 = .ok (.getfield 122, 3) := by decide +kernel
theorem dX11_refusalOfBuffers_32 : decode cX11_refusalOfBuffers 32 = .ok (.bipush 6, 2) := by decide +kernel
theorem dX11_refusalOfBuffers_34 : decode cX11_refusalOfBuffers 34 = .ok (.if_icmp .le 6, 3) := by decide +kernel
theorem dX11_refusalOfBuffers_37 : decode cX11_refusalOfBuffers 37 = .ok (.bipush (-2), 2) := by decide +kernel
theorem dX11_refusalOfBuffers_39 : decode cX11_refusalOfBuffers 39 = .ok (.ireturn, 1) := by decide +kernel
theorem dX11_refusalOfBuffers_40 : decode cX11_refusalOfBuffers 40 = .ok (.iconst 0, 1) := by decide +kernel
theorem dX11_refusalOfBuffers_41 : decode cX11_refusalOfBuffers 41 = .ok (.istore_n 3, 1) := by decide +kernel
theorem dX11_refusalOfBuffers_42 : decode cX11_refusalOfBuffers 42 = .ok (.iload_n 3, 1) := by decide +kernel
theorem dX11_refusalOfBuffers_43 : decode cX11_refusalOfBuffers 43 = .ok (.aload_n 2, 1) := by decide +kernel
theorem dX11_refusalOfBuffers_44 : decode cX11_refusalOfBuffers 44 = .ok (.getfield 122, 3) := by decide +kernel
theorem dX11_refusalOfBuffers_47 : decode cX11_refusalOfBuffers 47 = .ok (.if_icmp .ge 28, 3) := by decide +kernel
theorem dX11_refusalOfBuffers_50 : decode cX11_refusalOfBuffers 50 = .ok (.aload_n 0, 1) := by decide +kernel
theorem dX11_refusalOfBuffers_51 : decode cX11_refusalOfBuffers 51 = .ok (.getfield 19, 3) := by decide +kernel
theorem dX11_refusalOfBuffers_54 : decode cX11_refusalOfBuffers 54 = .ok (.aload_n 2, 1) := by decide +kernel
theorem dX11_refusalOfBuffers_55 : decode cX11_refusalOfBuffers 55 = .ok (.getfield 317, 3) := by decide +kernel
theorem dX11_refusalOfBuffers_58 : decode cX11_refusalOfBuffers 58 = .ok (.iload_n 3, 1) := by decide +kernel
theorem dX11_refusalOfBuffers_59 : decode cX11_refusalOfBuffers 59 = .ok (.iaload, 1) := by decide +kernel
theorem dX11_refusalOfBuffers_60 : decode cX11_refusalOfBuffers 60 = .ok (.invokevirtual 157, 3) := by decide +kernel
theorem dX11_refusalOfBuffers_63 : decode cX11_refusalOfBuffers 63 = .ok (.ifCond .ne 6, 3) := by decide +kernel
theorem dX11_refusalOfBuffers_66 : decode cX11_refusalOfBuffers 66 = .ok (.bipush (-2), 2) := by decide +kernel
theorem dX11_refusalOfBuffers_68 : decode cX11_refusalOfBuffers 68 = .ok (.ireturn, 1) := by decide +kernel
theorem dX11_refusalOfBuffers_69 : decode cX11_refusalOfBuffers 69 = .ok (.iinc 3 1, 3) := by decide +kernel
theorem dX11_refusalOfBuffers_72 : decode cX11_refusalOfBuffers 72 = .ok (.goto (-30), 3) := by decide +kernel
theorem dX11_refusalOfBuffers_75 : decode cX11_refusalOfBuffers 75 = .ok (.iconst 0, 1) := by decide +kernel
theorem dX11_refusalOfBuffers_76 : decode cX11_refusalOfBuffers 76 = .ok (.ireturn, 1) := by decide +kernel
theorem s136_0 : aW d 136 0 [l0, .int a, l2, l3] S h Q = aW d 136 1 [l0, .int a, l2, l3] (.int a :: S) h Q := ax_iload_n mt136 dX11_refusalOfBuffers_0 rfl
theorem s136_1 : aW (d + 1) 136 1 L (.int x0 :: []) h Q = aM d 129 [.int x0] h (fun v h1 => aW (d + 1) 136 4 L (ab_ps v []) h1 Q) := ax_invs mt136 dX11_refusalOfBuffers_1 (by decide) ct_45171 (.inl rfl) mt129 ⟨⟨Nat.le_of_ble_eq_true rfl, Nat.le_of_ble_eq_true rfl, Nat.le_of_ble_eq_true rfl⟩, rfl, rfl⟩
theorem s136_4 : aW d 136 4 L (.int a :: S) h Q = (if a = 0 then aW d 136 7 L S h Q else aW d 136 10 L S h Q) := ax_if_ne mt136 dX11_refusalOfBuffers_4 (by decide)
theorem s136_7 : aW d 136 7 L S h Q = aW d 136 9 L (.int ((-5)) :: S) h Q := ax_bipush mt136 dX11_refusalOfBuffers_7 bp_m5
theorem s136_9 : aW d 136 9 L [.int a] h Q = Q (some (.int a)) h := ax_reti mt136 dX11_refusalOfBuffers_9 rfl
theorem s136_10 : aW d 136 10 [.ref o, l1, l2, l3] S h Q = aW d 136 11 [.ref o, l1, l2, l3] (.ref o :: S) h Q := ax_aload_n mt136 dX11_refusalOfBuffers_10 rfl
theorem s136_11 (hT : gT h o = some (13, 14)) : aW d 136 11 L (.ref o :: S) h Q = (isRf (gR h o 12) = true ∧ aW d 136 14 L (gR h o 12 :: S) h Q) := ax_geta mt136 dX11_refusalOfBuffers_11 (by decide) ft_45136 fk_45136 hT
theorem s136_14 : aW d 136 14 [l0, .int a, l2, l3] S h Q = aW d 136 15 [l0, .int a, l2, l3] (.int a :: S) h Q := ax_iload_n mt136 dX11_refusalOfBuffers_14 rfl
theorem s136_15 : aW d 136 15 L (.int a :: .ref o :: S) h Q = ((inb a (aQ h o) ∧ isRf (gR h o a.toNatClampNeg) = true) ∧ aW d 136 16 L (gR h o a.toNatClampNeg :: S) h Q) := ax_aald mt136 dX11_refusalOfBuffers_15
theorem s136_16 : aW d 136 16 [l0, l1, l2, l3] (.ref o :: S) h Q = aW d 136 17 [l0, l1, .ref o, l3] S h Q := ax_astore_n mt136 dX11_refusalOfBuffers_16 (Nat.le_of_ble_eq_true rfl) rfl
theorem s136_17 : aW d 136 17 [l0, l1, .ref o, l3] S h Q = aW d 136 18 [l0, l1, .ref o, l3] (.ref o :: S) h Q := ax_aload_n mt136 dX11_refusalOfBuffers_17 rfl
theorem s136_18 (hT : gT h o = some (11, 3)) : aW d 136 18 L (.ref o :: S) h Q = aW d 136 21 L (.int (gI h o 0) :: S) h Q := ax_geti mt136 dX11_refusalOfBuffers_18 (by decide) ft_45175 fk_45175 hT
theorem s136_21 : aW d 136 21 L S h Q = aW d 136 22 L (.int ((-1)) :: S) h Q := ax_iconst mt136 dX11_refusalOfBuffers_21 ic_m1
theorem s136_22 : aW d 136 22 L (.int b :: .int a :: S) h Q = (if a = b then aW d 136 25 L S h Q else aW d 136 28 L S h Q) := ax_icmp_ne mt136 dX11_refusalOfBuffers_22 (by decide)
theorem s136_25 : aW d 136 25 L S h Q = aW d 136 27 L (.int ((-11)) :: S) h Q := ax_bipush mt136 dX11_refusalOfBuffers_25 bp_m11
theorem s136_27 : aW d 136 27 L [.int a] h Q = Q (some (.int a)) h := ax_reti mt136 dX11_refusalOfBuffers_27 rfl
theorem s136_28 : aW d 136 28 [l0, l1, .ref o, l3] S h Q = aW d 136 29 [l0, l1, .ref o, l3] (.ref o :: S) h Q := ax_aload_n mt136 dX11_refusalOfBuffers_28 rfl
theorem s136_29 (hT : gT h o = some (11, 3)) : aW d 136 29 L (.ref o :: S) h Q = aW d 136 32 L (.int (gI h o 1) :: S) h Q := ax_geti mt136 dX11_refusalOfBuffers_29 (by decide) ft_45178 fk_45178 hT
theorem s136_32 : aW d 136 32 L S h Q = aW d 136 34 L (.int (nI 6) :: S) h Q := ax_bipush mt136 dX11_refusalOfBuffers_32 bp_6
theorem s136_34 : aW d 136 34 L (.int b :: .int a :: S) h Q = (if b < a then aW d 136 37 L S h Q else aW d 136 40 L S h Q) := ax_icmp_le mt136 dX11_refusalOfBuffers_34 (by decide)
theorem s136_37 : aW d 136 37 L S h Q = aW d 136 39 L (.int ((-2)) :: S) h Q := ax_bipush mt136 dX11_refusalOfBuffers_37 bp_m2
theorem s136_39 : aW d 136 39 L [.int a] h Q = Q (some (.int a)) h := ax_reti mt136 dX11_refusalOfBuffers_39 rfl
theorem s136_40 : aW d 136 40 L S h Q = aW d 136 41 L (.int (nI 0) :: S) h Q := ax_iconst mt136 dX11_refusalOfBuffers_40 ic_0
theorem s136_41 : aW d 136 41 [l0, l1, l2, l3] (.int a :: S) h Q = aW d 136 42 [l0, l1, l2, .int a] S h Q := ax_istore_n mt136 dX11_refusalOfBuffers_41 (Nat.le_of_ble_eq_true rfl) rfl
theorem s136_42 : aW d 136 42 [l0, l1, l2, .int a] S h Q = aW d 136 43 [l0, l1, l2, .int a] (.int a :: S) h Q := ax_iload_n mt136 dX11_refusalOfBuffers_42 rfl
theorem s136_43 : aW d 136 43 [l0, l1, .ref o, l3] S h Q = aW d 136 44 [l0, l1, .ref o, l3] (.ref o :: S) h Q := ax_aload_n mt136 dX11_refusalOfBuffers_43 rfl
theorem s136_44 (hT : gT h o = some (11, 3)) : aW d 136 44 L (.ref o :: S) h Q = aW d 136 47 L (.int (gI h o 1) :: S) h Q := ax_geti mt136 dX11_refusalOfBuffers_44 (by decide) ft_45178 fk_45178 hT
theorem s136_47 : aW d 136 47 L (.int b :: .int a :: S) h Q = (if a < b then aW d 136 50 L S h Q else aW d 136 75 L S h Q) := ax_icmp_ge mt136 dX11_refusalOfBuffers_47 (by decide)
theorem s136_50 : aW d 136 50 [.ref o, l1, l2, l3] S h Q = aW d 136 51 [.ref o, l1, l2, l3] (.ref o :: S) h Q := ax_aload_n mt136 dX11_refusalOfBuffers_50 rfl
theorem s136_51 (hT : gT h o = some (13, 14)) : aW d 136 51 L (.ref o :: S) h Q = (isRf (gR h o 1) = true ∧ aW d 136 54 L (gR h o 1 :: S) h Q) := ax_geta mt136 dX11_refusalOfBuffers_51 (by decide) ft_45075 fk_45075 hT
theorem s136_54 : aW d 136 54 [l0, l1, .ref o, l3] S h Q = aW d 136 55 [l0, l1, .ref o, l3] (.ref o :: S) h Q := ax_aload_n mt136 dX11_refusalOfBuffers_54 rfl
theorem s136_55 (hT : gT h o = some (11, 3)) : aW d 136 55 L (.ref o :: S) h Q = (isRf (gR h o 2) = true ∧ aW d 136 58 L (gR h o 2 :: S) h Q) := ax_geta mt136 dX11_refusalOfBuffers_55 (by decide) ft_45373 fk_45373 hT
theorem s136_58 : aW d 136 58 [l0, l1, l2, .int a] S h Q = aW d 136 59 [l0, l1, l2, .int a] (.int a :: S) h Q := ax_iload_n mt136 dX11_refusalOfBuffers_58 rfl
theorem s136_59 : aW d 136 59 L (.int a :: .ref o :: S) h Q = (inb a (aI h o) ∧ aW d 136 60 L (.int (gI h o a.toNatClampNeg) :: S) h Q) := ax_iald mt136 dX11_refusalOfBuffers_59
theorem s136_60 (hT : gT h o = some (8, 12)) : aW (d + 1) 136 60 L (.int x0 :: .ref o :: []) h Q = aM d 44 (.ref o :: [.int x0]) h (fun v h1 => aW (d + 1) 136 63 L (ab_ps v []) h1 Q) := ax_invv mt136 dX11_refusalOfBuffers_60 (by decide) ct_45213 (.inl rfl) mt44 ⟨⟨Nat.le_of_ble_eq_true rfl, Nat.le_of_ble_eq_true rfl, Nat.le_of_ble_eq_true rfl⟩, rfl, rfl, rfl⟩ hT
theorem s136_63 : aW d 136 63 L (.int a :: S) h Q = (if a = 0 then aW d 136 66 L S h Q else aW d 136 69 L S h Q) := ax_if_ne mt136 dX11_refusalOfBuffers_63 (by decide)
theorem s136_66 : aW d 136 66 L S h Q = aW d 136 68 L (.int ((-2)) :: S) h Q := ax_bipush mt136 dX11_refusalOfBuffers_66 bp_m2
theorem s136_68 : aW d 136 68 L [.int a] h Q = Q (some (.int a)) h := ax_reti mt136 dX11_refusalOfBuffers_68 rfl
theorem s136_69 : aW d 136 69 [l0, l1, l2, .int a] S h Q = aW d 136 72 [l0, l1, l2, .int (a + nI 1)] S h Q := ax_iinc mt136 dX11_refusalOfBuffers_69 rfl ic_1 rfl
theorem s136_72 : aW d 136 72 L S h Q = aW d 136 42 L S h Q := ax_goto mt136 dX11_refusalOfBuffers_72 (by decide)
theorem s136_75 : aW d 136 75 L S h Q = aW d 136 76 L (.int (nI 0) :: S) h Q := ax_iconst mt136 dX11_refusalOfBuffers_75 ic_0
theorem s136_76 : aW d 136 76 L [.int a] h Q = Q (some (.int a)) h := ax_reti mt136 dX11_refusalOfBuffers_76 rfl
-- method 137: BufferRoom.plannedTogether(II)Z
theorem dX11_plannedTogether_0 : decode cX11_plannedTogether 0 = .ok (.aload_n 0, 1) := by decide +kernel
theorem dX11_plannedTogether_1 : decode cX11_plannedTogether 1 = .ok (.getfield 32, 3) := by decide +kernel
theorem dX11_plannedTogether_4 : decode cX11_plannedTogether 4 = .ok (.getfield 160, 3) := by decide +kernel
theorem dX11_plannedTogether_7 : decode cX11_plannedTogether 7 = .ok (.getfield 164, 3) := by decide +kernel
theorem dX11_plannedTogether_10 : decode cX11_plannedTogether 10 = .ok (.astore_n 3, 1) := by decide +kernel
theorem dX11_plannedTogether_11 : decode cX11_plannedTogether 11 = .ok (.aload_n 0, 1) := by decide +kernel
theorem dX11_plannedTogether_12 : decode cX11_plannedTogether 12 = .ok (.getfield 50, 3) := by decide +kernel
theorem dX11_plannedTogether_15 : decode cX11_plannedTogether 15 = .ok (.iload_n 1, 1) := by decide +kernel
theorem dX11_plannedTogether_16 : decode cX11_plannedTogether 16 = .ok (.iaload, 1) := by decide +kernel
theorem dX11_plannedTogether_17 : decode cX11_plannedTogether 17 = .ok (.ifCond .lt 40, 3) := by decide +kernel
theorem dX11_plannedTogether_20 : decode cX11_plannedTogether 20 = .ok (.aload_n 0, 1) := by decide +kernel
theorem dX11_plannedTogether_21 : decode cX11_plannedTogether 21 = .ok (.getfield 50, 3) := by decide +kernel
theorem dX11_plannedTogether_24 : decode cX11_plannedTogether 24 = .ok (.iload_n 2, 1) := by decide +kernel
theorem dX11_plannedTogether_25 : decode cX11_plannedTogether 25 = .ok (.iaload, 1) := by decide +kernel
theorem dX11_plannedTogether_26 : decode cX11_plannedTogether 26 = .ok (.ifCond .lt 31, 3) := by decide +kernel
theorem dX11_plannedTogether_29 : decode cX11_plannedTogether 29 = .ok (.aload_n 0, 1) := by decide +kernel
theorem dX11_plannedTogether_30 : decode cX11_plannedTogether 30 = .ok (.getfield 50, 3) := by decide +kernel
theorem dX11_plannedTogether_33 : decode cX11_plannedTogether 33 = .ok (.iload_n 1, 1) := by decide +kernel
theorem dX11_plannedTogether_34 : decode cX11_plannedTogether 34 = .ok (.iaload, 1) := by decide +kernel
theorem dX11_plannedTogether_35 : decode cX11_plannedTogether 35 = .ok (.aload_n 3, 1) := by decide +kernel
theorem dX11_plannedTogether_36 : decode cX11_plannedTogether 36 = .ok (.iload_n 1, 1) := by decide +kernel
theorem dX11_plannedTogether_37 : decode cX11_plannedTogether 37 = .ok (.iaload, 1) := by decide +kernel
theorem dX11_plannedTogether_38 : decode cX11_plannedTogether 38 = .ok (.aload_n 0, 1) := by decide +kernel
theorem dX11_plannedTogether_39 : decode cX11_plannedTogether 39 = .ok (.getfield 50, 3) := by decide +kernel
theorem dX11_plannedTogether_42 : decode cX11_plannedTogether 42 = .ok (.iload_n 2, 1) := by decide +kernel
theorem dX11_plannedTogether_43 : decode cX11_plannedTogether 43 = .ok (.iaload, 1) := by decide +kernel
theorem dX11_plannedTogether_44 : decode cX11_plannedTogether 44 = .ok (.aload_n 3, 1) := by decide +kernel
theorem dX11_plannedTogether_45 : decode cX11_plannedTogether 45 = .ok (.iload_n 2, 1) := by decide +kernel
theorem dX11_plannedTogether_46 : decode cX11_plannedTogether 46 = .ok (.iaload, 1) := by decide +kernel
theorem dX11_plannedTogether_47 : decode cX11_plannedTogether 47 = .ok (.invokestatic 338, 3) := by decide +kernel
theorem dX11_plannedTogether_50 : decode cX11_plannedTogether 50 = .ok (.ifCond .eq 7, 3) := by decide +kernel
theorem dX11_plannedTogether_53 : decode cX11_plannedTogether 53 = .ok (.iconst 1, 1) := by decide +kernel
theorem dX11_plannedTogether_54 : decode cX11_plannedTogether 54 = .ok (.goto 4, 3) := by decide +kernel
theorem dX11_plannedTogether_57 : decode cX11_plannedTogether 57 = .ok (.iconst 0, 1) := by decide +kernel
theorem dX11_plannedTogether_58 : decode cX11_plannedTogether 58 = .ok (.ireturn, 1) := by decide +kernel
theorem s137_0 : aW d 137 0 [.ref o, l1, l2, l3] S h Q = aW d 137 1 [.ref o, l1, l2, l3] (.ref o :: S) h Q := ax_aload_n mt137 dX11_plannedTogether_0 rfl
theorem s137_1 (hT : gT h o = some (13, 14)) : aW d 137 1 L (.ref o :: S) h Q = (isRf (gR h o 3) = true ∧ aW d 137 4 L (gR h o 3 :: S) h Q) := ax_geta mt137 dX11_plannedTogether_1 (by decide) ft_45088 fk_45088 hT
theorem s137_4 (hT : gT h o = some (12, 9)) : aW d 137 4 L (.ref o :: S) h Q = (isRf (gR h o 0) = true ∧ aW d 137 7 L (gR h o 0 :: S) h Q) := ax_geta mt137 dX11_plannedTogether_4 (by decide) ft_45216 fk_45216 hT
theorem s137_7 (hT : gT h o = some (5, 4)) : aW d 137 7 L (.ref o :: S) h Q = (isRf (gR h o 1) = true ∧ aW d 137 10 L (gR h o 1 :: S) h Q) := ax_geta mt137 dX11_plannedTogether_7 (by decide) ft_45220 fk_45220 hT
theorem s137_10 : aW d 137 10 [l0, l1, l2, l3] (.ref o :: S) h Q = aW d 137 11 [l0, l1, l2, .ref o] S h Q := ax_astore_n mt137 dX11_plannedTogether_10 (Nat.le_of_ble_eq_true rfl) rfl
theorem s137_11 : aW d 137 11 [.ref o, l1, l2, l3] S h Q = aW d 137 12 [.ref o, l1, l2, l3] (.ref o :: S) h Q := ax_aload_n mt137 dX11_plannedTogether_11 rfl
theorem s137_12 (hT : gT h o = some (13, 14)) : aW d 137 12 L (.ref o :: S) h Q = (isRf (gR h o 6) = true ∧ aW d 137 15 L (gR h o 6 :: S) h Q) := ax_geta mt137 dX11_plannedTogether_12 (by decide) ft_45106 fk_45106 hT
theorem s137_15 : aW d 137 15 [l0, .int a, l2, l3] S h Q = aW d 137 16 [l0, .int a, l2, l3] (.int a :: S) h Q := ax_iload_n mt137 dX11_plannedTogether_15 rfl
theorem s137_16 : aW d 137 16 L (.int a :: .ref o :: S) h Q = (inb a (aI h o) ∧ aW d 137 17 L (.int (gI h o a.toNatClampNeg) :: S) h Q) := ax_iald mt137 dX11_plannedTogether_16
theorem s137_17 : aW d 137 17 L (.int a :: S) h Q = (if a < 0 then aW d 137 57 L S h Q else aW d 137 20 L S h Q) := ax_if_lt mt137 dX11_plannedTogether_17 (by decide)
theorem s137_20 : aW d 137 20 [.ref o, l1, l2, l3] S h Q = aW d 137 21 [.ref o, l1, l2, l3] (.ref o :: S) h Q := ax_aload_n mt137 dX11_plannedTogether_20 rfl
theorem s137_21 (hT : gT h o = some (13, 14)) : aW d 137 21 L (.ref o :: S) h Q = (isRf (gR h o 6) = true ∧ aW d 137 24 L (gR h o 6 :: S) h Q) := ax_geta mt137 dX11_plannedTogether_21 (by decide) ft_45106 fk_45106 hT
theorem s137_24 : aW d 137 24 [l0, l1, .int a, l3] S h Q = aW d 137 25 [l0, l1, .int a, l3] (.int a :: S) h Q := ax_iload_n mt137 dX11_plannedTogether_24 rfl
theorem s137_25 : aW d 137 25 L (.int a :: .ref o :: S) h Q = (inb a (aI h o) ∧ aW d 137 26 L (.int (gI h o a.toNatClampNeg) :: S) h Q) := ax_iald mt137 dX11_plannedTogether_25
theorem s137_26 : aW d 137 26 L (.int a :: S) h Q = (if a < 0 then aW d 137 57 L S h Q else aW d 137 29 L S h Q) := ax_if_lt mt137 dX11_plannedTogether_26 (by decide)
theorem s137_29 : aW d 137 29 [.ref o, l1, l2, l3] S h Q = aW d 137 30 [.ref o, l1, l2, l3] (.ref o :: S) h Q := ax_aload_n mt137 dX11_plannedTogether_29 rfl
theorem s137_30 (hT : gT h o = some (13, 14)) : aW d 137 30 L (.ref o :: S) h Q = (isRf (gR h o 6) = true ∧ aW d 137 33 L (gR h o 6 :: S) h Q) := ax_geta mt137 dX11_plannedTogether_30 (by decide) ft_45106 fk_45106 hT
theorem s137_33 : aW d 137 33 [l0, .int a, l2, l3] S h Q = aW d 137 34 [l0, .int a, l2, l3] (.int a :: S) h Q := ax_iload_n mt137 dX11_plannedTogether_33 rfl
theorem s137_34 : aW d 137 34 L (.int a :: .ref o :: S) h Q = (inb a (aI h o) ∧ aW d 137 35 L (.int (gI h o a.toNatClampNeg) :: S) h Q) := ax_iald mt137 dX11_plannedTogether_34
theorem s137_35 : aW d 137 35 [l0, l1, l2, .ref o] S h Q = aW d 137 36 [l0, l1, l2, .ref o] (.ref o :: S) h Q := ax_aload_n mt137 dX11_plannedTogether_35 rfl
theorem s137_36 : aW d 137 36 [l0, .int a, l2, l3] S h Q = aW d 137 37 [l0, .int a, l2, l3] (.int a :: S) h Q := ax_iload_n mt137 dX11_plannedTogether_36 rfl
theorem s137_37 : aW d 137 37 L (.int a :: .ref o :: S) h Q = (inb a (aI h o) ∧ aW d 137 38 L (.int (gI h o a.toNatClampNeg) :: S) h Q) := ax_iald mt137 dX11_plannedTogether_37
theorem s137_38 : aW d 137 38 [.ref o, l1, l2, l3] S h Q = aW d 137 39 [.ref o, l1, l2, l3] (.ref o :: S) h Q := ax_aload_n mt137 dX11_plannedTogether_38 rfl
theorem s137_39 (hT : gT h o = some (13, 14)) : aW d 137 39 L (.ref o :: S) h Q = (isRf (gR h o 6) = true ∧ aW d 137 42 L (gR h o 6 :: S) h Q) := ax_geta mt137 dX11_plannedTogether_39 (by decide) ft_45106 fk_45106 hT
theorem s137_42 : aW d 137 42 [l0, l1, .int a, l3] S h Q = aW d 137 43 [l0, l1, .int a, l3] (.int a :: S) h Q := ax_iload_n mt137 dX11_plannedTogether_42 rfl
theorem s137_43 : aW d 137 43 L (.int a :: .ref o :: S) h Q = (inb a (aI h o) ∧ aW d 137 44 L (.int (gI h o a.toNatClampNeg) :: S) h Q) := ax_iald mt137 dX11_plannedTogether_43
theorem s137_44 : aW d 137 44 [l0, l1, l2, .ref o] S h Q = aW d 137 45 [l0, l1, l2, .ref o] (.ref o :: S) h Q := ax_aload_n mt137 dX11_plannedTogether_44 rfl
theorem s137_45 : aW d 137 45 [l0, l1, .int a, l3] S h Q = aW d 137 46 [l0, l1, .int a, l3] (.int a :: S) h Q := ax_iload_n mt137 dX11_plannedTogether_45 rfl
theorem s137_46 : aW d 137 46 L (.int a :: .ref o :: S) h Q = (inb a (aI h o) ∧ aW d 137 47 L (.int (gI h o a.toNatClampNeg) :: S) h Q) := ax_iald mt137 dX11_plannedTogether_46
theorem s137_47 : aW (d + 1) 137 47 L (.int x3 :: .int x2 :: .int x1 :: .int x0 :: []) h Q = aM d 132 [.int x0, .int x1, .int x2, .int x3] h (fun v h1 => aW (d + 1) 137 50 L (ab_ps v []) h1 Q) := ax_invs mt137 dX11_plannedTogether_47 (by decide) ct_45394 (.inl rfl) mt132 ⟨⟨Nat.le_of_ble_eq_true rfl, Nat.le_of_ble_eq_true rfl, Nat.le_of_ble_eq_true rfl⟩, rfl, rfl⟩
theorem s137_50 : aW d 137 50 L (.int a :: S) h Q = (if a = 0 then aW d 137 57 L S h Q else aW d 137 53 L S h Q) := ax_if_eq mt137 dX11_plannedTogether_50 (by decide)
theorem s137_53 : aW d 137 53 L S h Q = aW d 137 54 L (.int (nI 1) :: S) h Q := ax_iconst mt137 dX11_plannedTogether_53 ic_1
theorem s137_54 : aW d 137 54 L S h Q = aW d 137 58 L S h Q := ax_goto mt137 dX11_plannedTogether_54 (by decide)
theorem s137_58 : aW d 137 58 L [.int a] h Q = (b01 a ∧ Q (some (.int a)) h) := ax_retz mt137 dX11_plannedTogether_58 rfl
theorem s137_57 : aW d 137 57 L S h Q = aW d 137 58 L (.int (nI 0) :: S) h Q := ax_iconst mt137 dX11_plannedTogether_57 ic_0
end S
