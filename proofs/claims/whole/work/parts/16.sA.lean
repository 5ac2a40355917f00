section S
variable {d o o2 p0 p1 p2 p3 p4 q0 q1 q2 q3 q4 q5 : Nat} {L S : List Value} {h : abH} {Q : Option Value → abH → Prop} {l0 l1 l2 l3 l4 l5 l6 l7 l8 l9 l10 l11 l12 l13 l14 l15 l16 l17 l18 l19 : Value} {a b x0 x1 x2 x3 x4 x5 y0 y1 y2 y3 y4 y5 : Int32} {u w u0 w0 w1 w2 w3 w4 : Int64}
-- method 0: BufferRoom$Floor.<init>()V
theorem dX0_init_0 : decode cX0_init 0 = .ok (.aload_n 0, 1) := by decide +kernel
theorem dX0_init_1 : decode cX0_init 1 = .ok (.invokespecial 3, 3) := by decide +kernel
theorem dX0_init_4 : decode cX0_init 4 = .ok (.aload_n 0, 1) := by decide +kernel
theorem dX0_init_5 : decode cX0_init 5 = .ok (.bipush 12, 2) := by decide +kernel
theorem dX0_init_7 : decode cX0_init 7 = .ok (.newarray .int, 2) := by decide +kernel
theorem dX0_init_9 : decode cX0_init 9 = .ok (.putfield 9, 3) := by decide +kernel
theorem dX0_init_12 : decode cX0_init 12 = .ok (.aload_n 0, 1) := by decide +kernel
theorem dX0_init_13 : decode cX0_init 13 = .ok (.iconst 4, 1) := by decide +kernel
theorem dX0_init_14 : decode cX0_init 14 = .ok (.newarray .int, 2) := by decide +kernel
theorem dX0_init_16 : decode cX0_init 16 = .ok (.dup, 1) := by decide +kernel
theorem dX0_init_17 : decode cX0_init 17 = .ok (.iconst 0, 1) := by decide +kernel
theorem dX0_init_18 : decode cX0_init 18 = .ok (.iconst 1, 1) := by decide +kernel
theorem dX0_init_19 : decode cX0_init 19 = .ok (.iastore, 1) := by decide +kernel
theorem dX0_init_20 : decode cX0_init 20 = .ok (.dup, 1) := by decide +kernel
theorem dX0_init_21 : decode cX0_init 21 = .ok (.iconst 1, 1) := by decide +kernel
theorem dX0_init_22 : decode cX0_init 22 = .ok (.iconst 1, 1) := by decide +kernel
theorem dX0_init_23 : decode cX0_init 23 = .ok (.iastore, 1) := by decide +kernel
theorem dX0_init_24 : decode cX0_init 24 = .ok (.dup, 1) := by decide +kernel
theorem dX0_init_25 : decode cX0_init 25 = .ok (.iconst 2, 1) := by decide +kernel
theorem dX0_init_26 : decode cX0_init 26 = .ok (.iconst 1, 1) := by decide +kernel
theorem dX0_init_27 : decode cX0_init 27 = .ok (.iastore, 1) := by decide +kernel
theorem dX0_init_28 : decode cX0_init 28 = .ok (.dup, 1) := by decide +kernel
theorem dX0_init_29 : decode cX0_init 29 = .ok (.iconst 3, 1) := by decide +kernel
theorem dX0_init_30 : decode cX0_init 30 = .ok (.iconst 1, 1) := by decide +kernel
theorem dX0_init_31 : decode cX0_init 31 = .ok (.iastore, 1) := by decide +kernel
theorem dX0_init_32 : decode cX0_init 32 = .ok (.putfield 15, 3) := by decide +kernel
theorem dX0_init_35 : decode cX0_init 35 = .ok (.return_, 1) := by decide +kernel
theorem s0_0 : aW d 0 0 [.ref o] S h Q = aW d 0 1 [.ref o] (.ref o :: S) h Q := ax_aload_n mt0 dX0_init_0 rfl
theorem s0_1 : aW (d + 1) 0 1 L (.ref o :: []) h Q = aW (d + 1) 0 4 L [] h Q := ax_obj mt0 dX0_init_1 (by decide) ct_3 (Nat.le_of_ble_eq_true rfl)
theorem s0_4 : aW d 0 4 [.ref o] S h Q = aW d 0 5 [.ref o] (.ref o :: S) h Q := ax_aload_n mt0 dX0_init_4 rfl
theorem s0_5 : aW d 0 5 L S h Q = aW d 0 7 L (.int (nI 12) :: S) h Q := ax_bipush mt0 dX0_init_5 bp_12
theorem s0_7 (hn : ¬ a < 0 ∧ a.toNatClampNeg ≤ 100000) : aW d 0 7 L (.int a :: S) h Q = aW d 0 9 L (.ref h.1.length :: S) (nO h 0 a.toNatClampNeg) Q := ax_newi mt0 dX0_init_7 hn
theorem s0_9 (hT : gT h o = some (3, 5)) : aW d 0 9 L (.ref o2 :: .ref o :: S) h Q = aW d 0 12 L S (pR h o 3 (.ref o2)) Q := ax_puta mt0 dX0_init_9 (by decide) ft_9 (fun q => q.2 ⟨rfl, rfl, rfl⟩) fp_9 hT
theorem s0_12 : aW d 0 12 [.ref o] S h Q = aW d 0 13 [.ref o] (.ref o :: S) h Q := ax_aload_n mt0 dX0_init_12 rfl
theorem s0_13 : aW d 0 13 L S h Q = aW d 0 14 L (.int (nI 4) :: S) h Q := ax_iconst mt0 dX0_init_13 ic_4
theorem s0_14 (hn : ¬ a < 0 ∧ a.toNatClampNeg ≤ 100000) : aW d 0 14 L (.int a :: S) h Q = aW d 0 16 L (.ref h.1.length :: S) (nO h 0 a.toNatClampNeg) Q := ax_newi mt0 dX0_init_14 hn
theorem s0_16 : aW d 0 16 L (.ref o :: S) h Q = aW d 0 17 L (.ref o :: .ref o :: S) h Q := ax_dupa mt0 dX0_init_16
theorem s0_17 : aW d 0 17 L S h Q = aW d 0 18 L (.int (nI 0) :: S) h Q := ax_iconst mt0 dX0_init_17 ic_0
theorem s0_18 : aW d 0 18 L S h Q = aW d 0 19 L (.int (nI 1) :: S) h Q := ax_iconst mt0 dX0_init_18 ic_1
theorem s0_19 : aW d 0 19 L (.int b :: .int a :: .ref o :: S) h Q = (inb a (aJ h o) ∧ aW d 0 20 L S (pI h o a.toNatClampNeg b) Q) := ax_iast mt0 dX0_init_19
theorem s0_20 : aW d 0 20 L (.ref o :: S) h Q = aW d 0 21 L (.ref o :: .ref o :: S) h Q := ax_dupa mt0 dX0_init_20
theorem s0_21 : aW d 0 21 L S h Q = aW d 0 22 L (.int (nI 1) :: S) h Q := ax_iconst mt0 dX0_init_21 ic_1
theorem s0_22 : aW d 0 22 L S h Q = aW d 0 23 L (.int (nI 1) :: S) h Q := ax_iconst mt0 dX0_init_22 ic_1
theorem s0_23 : aW d 0 23 L (.int b :: .int a :: .ref o :: S) h Q = (inb a (aJ h o) ∧ aW d 0 24 L S (pI h o a.toNatClampNeg b) Q) := ax_iast mt0 dX0_init_23
theorem s0_24 : aW d 0 24 L (.ref o :: S) h Q = aW d 0 25 L (.ref o :: .ref o :: S) h Q := ax_dupa mt0 dX0_init_24
theorem s0_25 : aW d 0 25 L S h Q = aW d 0 26 L (.int (nI 2) :: S) h Q := ax_iconst mt0 dX0_init_25 ic_2
theorem s0_26 : aW d 0 26 L S h Q = aW d 0 27 L (.int (nI 1) :: S) h Q := ax_iconst mt0 dX0_init_26 ic_1
theorem s0_27 : aW d 0 27 L (.int b :: .int a :: .ref o :: S) h Q = (inb a (aJ h o) ∧ aW d 0 28 L S (pI h o a.toNatClampNeg b) Q) := ax_iast mt0 dX0_init_27
theorem s0_28 : aW d 0 28 L (.ref o :: S) h Q = aW d 0 29 L (.ref o :: .ref o :: S) h Q := ax_dupa mt0 dX0_init_28
theorem s0_29 : aW d 0 29 L S h Q = aW d 0 30 L (.int (nI 3) :: S) h Q := ax_iconst mt0 dX0_init_29 ic_3
theorem s0_30 : aW d 0 30 L S h Q = aW d 0 31 L (.int (nI 1) :: S) h Q := ax_iconst mt0 dX0_init_30 ic_1
theorem s0_31 : aW d 0 31 L (.int b :: .int a :: .ref o :: S) h Q = (inb a (aJ h o) ∧ aW d 0 32 L S (pI h o a.toNatClampNeg b) Q) := ax_iast mt0 dX0_init_31
theorem s0_32 (hT : gT h o = some (3, 5)) : aW d 0 32 L (.ref o2 :: .ref o :: S) h Q = aW d 0 35 L S (pR h o 4 (.ref o2)) Q := ax_puta mt0 dX0_init_32 (by decide) ft_15 (fun q => q.2 ⟨rfl, rfl, rfl⟩) fp_15 hT
theorem s0_35 : aW d 0 35 L [] h Q = Q none h := ax_retv mt0 dX0_init_35 rfl
-- method 1: BufferRoom$Floor.empty()V
theorem dX0_empty_0 : decode cX0_empty 0 = .ok (.aload_n 0, 1) := by decide +kernel
theorem dX0_empty_1 : decode cX0_empty 1 = .ok (.iconst 0, 1) := by decide +kernel
theorem dX0_empty_2 : decode cX0_empty 2 = .ok (.putfield 18, 3) := by decide +kernel
theorem dX0_empty_5 : decode cX0_empty 5 = .ok (.aload_n 0, 1) := by decide +kernel
theorem dX0_empty_6 : decode cX0_empty 6 = .ok (.iconst 0, 1) := by decide +kernel
theorem dX0_empty_7 : decode cX0_empty 7 = .ok (.putfield 22, 3) := by decide +kernel
theorem dX0_empty_10 : decode cX0_empty 10 = .ok (.iconst 0, 1) := by decide +kernel
theorem dX0_empty_11 : decode cX0_empty 11 = .ok (.istore_n 1, 1) := by decide +kernel
theorem dX0_empty_12 : decode cX0_empty 12 = .ok (.iload_n 1, 1) := by decide +kernel
theorem dX0_empty_13 : decode cX0_empty 13 = .ok (.bipush 12, 2) := by decide +kernel
theorem dX0_empty_15 : decode cX0_empty 15 = .ok (.if_icmp .ge 16, 3) := by decide +kernel
theorem dX0_empty_18 : decode cX0_empty 18 = .ok (.aload_n 0, 1) := by decide +kernel
theorem dX0_empty_19 : decode cX0_empty 19 = .ok (.getfield 9, 3) := by decide +kernel
theorem dX0_empty_22 : decode cX0_empty 22 = .ok (.iload_n 1, 1) := by decide +kernel
theorem dX0_empty_23 : decode cX0_empty 23 = .ok (.iconst (-1), 1) := by decide +kernel
theorem dX0_empty_24 : decode cX0_empty 24 = .ok (.iastore, 1) := by decide +kernel
theorem dX0_empty_25 : decode cX0_empty 25 = .ok (.iinc 1 1, 3) := by decide +kernel
theorem dX0_empty_28 : decode cX0_empty 28 = .ok (.goto (-16), 3) := by decide +kernel
theorem dX0_empty_31 : decode cX0_empty 31 = .ok (.return_, 1) := by decide +kernel
theorem s1_0 : aW d 1 0 [.ref o, l1] S h Q = aW d 1 1 [.ref o, l1] (.ref o :: S) h Q := ax_aload_n mt1 dX0_empty_0 rfl
theorem s1_1 : aW d 1 1 L S h Q = aW d 1 2 L (.int (nI 0) :: S) h Q := ax_iconst mt1 dX0_empty_1 ic_0
theorem s1_2 (hT : gT h o = some (3, 5)) : aW d 1 2 L (.int a :: .ref o :: S) h Q = aW d 1 5 L S (pI h o 0 a) Q := ax_puti mt1 dX0_empty_2 (by decide) ft_18 (fun q => fn_18 q.1) fp_18 hT
theorem s1_5 : aW d 1 5 [.ref o, l1] S h Q = aW d 1 6 [.ref o, l1] (.ref o :: S) h Q := ax_aload_n mt1 dX0_empty_5 rfl
theorem s1_6 : aW d 1 6 L S h Q = aW d 1 7 L (.int (nI 0) :: S) h Q := ax_iconst mt1 dX0_empty_6 ic_0
theorem s1_7 (hT : gT h o = some (3, 5)) : aW d 1 7 L (.int a :: .ref o :: S) h Q = aW d 1 10 L S (pI h o 1 a) Q := ax_puti mt1 dX0_empty_7 (by decide) ft_22 (fun q => fn_22 q.1) fp_22 hT
theorem s1_10 : aW d 1 10 L S h Q = aW d 1 11 L (.int (nI 0) :: S) h Q := ax_iconst mt1 dX0_empty_10 ic_0
theorem s1_11 : aW d 1 11 [l0, l1] (.int a :: S) h Q = aW d 1 12 [l0, .int a] S h Q := ax_istore_n mt1 dX0_empty_11 (Nat.le_of_ble_eq_true rfl) rfl
theorem s1_12 : aW d 1 12 [l0, .int a] S h Q = aW d 1 13 [l0, .int a] (.int a :: S) h Q := ax_iload_n mt1 dX0_empty_12 rfl
theorem s1_13 : aW d 1 13 L S h Q = aW d 1 15 L (.int (nI 12) :: S) h Q := ax_bipush mt1 dX0_empty_13 bp_12
theorem s1_15 : aW d 1 15 L (.int b :: .int a :: S) h Q = (if a < b then aW d 1 18 L S h Q else aW d 1 31 L S h Q) := ax_icmp_ge mt1 dX0_empty_15 (by decide)
theorem s1_18 : aW d 1 18 [.ref o, l1] S h Q = aW d 1 19 [.ref o, l1] (.ref o :: S) h Q := ax_aload_n mt1 dX0_empty_18 rfl
theorem s1_19 (hT : gT h o = some (3, 5)) : aW d 1 19 L (.ref o :: S) h Q = (isRf (gR h o 3) = true ∧ aW d 1 22 L (gR h o 3 :: S) h Q) := ax_geta mt1 dX0_empty_19 (by decide) ft_9 fk_9 hT
theorem s1_22 : aW d 1 22 [l0, .int a] S h Q = aW d 1 23 [l0, .int a] (.int a :: S) h Q := ax_iload_n mt1 dX0_empty_22 rfl
theorem s1_23 : aW d 1 23 L S h Q = aW d 1 24 L (.int ((-1)) :: S) h Q := ax_iconst mt1 dX0_empty_23 ic_m1
theorem s1_24 : aW d 1 24 L (.int b :: .int a :: .ref o :: S) h Q = (inb a (aJ h o) ∧ aW d 1 25 L S (pI h o a.toNatClampNeg b) Q) := ax_iast mt1 dX0_empty_24
theorem s1_25 : aW d 1 25 [l0, .int a] S h Q = aW d 1 28 [l0, .int (a + nI 1)] S h Q := ax_iinc mt1 dX0_empty_25 rfl ic_1 rfl
theorem s1_28 : aW d 1 28 L S h Q = aW d 1 12 L S h Q := ax_goto mt1 dX0_empty_28 (by decide)
theorem s1_31 : aW d 1 31 L [] h Q = Q none h := ax_retv mt1 dX0_empty_31 rfl
-- method 2: BufferRoom$Floor.takeFrom(LBufferRoom$Floor;)V
theorem dX0_takeFrom_0 : decode cX0_takeFrom 0 = .ok (.aload_n 0, 1) := by decide +kernel
theorem dX0_takeFrom_1 : decode cX0_takeFrom 1 = .ok (.aload_n 1, 1) := by decide +kernel
theorem dX0_takeFrom_2 : decode cX0_takeFrom 2 = .ok (.getfield 18, 3) := by decide +kernel
theorem dX0_takeFrom_5 : decode cX0_takeFrom 5 = .ok (.putfield 18, 3) := by decide +kernel
theorem dX0_takeFrom_8 : decode cX0_takeFrom 8 = .ok (.aload_n 0, 1) := by decide +kernel
theorem dX0_takeFrom_9 : decode cX0_takeFrom 9 = .ok (.aload_n 1, 1) := by decide +kernel
theorem dX0_takeFrom_10 : decode cX0_takeFrom 10 = .ok (.getfield 22, 3) := by decide +kernel
theorem dX0_takeFrom_13 : decode cX0_takeFrom 13 = .ok (.putfield 22, 3) := by decide +kernel
theorem dX0_takeFrom_16 : decode cX0_takeFrom 16 = .ok (.aload_n 0, 1) := by decide +kernel
theorem dX0_takeFrom_17 : decode cX0_takeFrom 17 = .ok (.aload_n 1, 1) := by decide +kernel
theorem dX0_takeFrom_18 : decode cX0_takeFrom 18 = .ok (.getfield 25, 3) := by decide +kernel
theorem dX0_takeFrom_21 : decode cX0_takeFrom 21 = .ok (.putfield 25, 3) := by decide +kernel
theorem dX0_takeFrom_24 : decode cX0_takeFrom 24 = .ok (.aload_n 1, 1) := by decide +kernel
theorem dX0_takeFrom_25 : decode cX0_takeFrom 25 = .ok (.getfield 9, 3) := by decide +kernel
theorem dX0_takeFrom_28 : decode cX0_takeFrom 28 = .ok (.iconst 0, 1) := by decide +kernel
theorem dX0_takeFrom_29 : decode cX0_takeFrom 29 = .ok (.aload_n 0, 1) := by decide +kernel
theorem dX0_takeFrom_30 : decode cX0_takeFrom 30 = .ok (.getfield 9, 3) := by decide +kernel
theorem dX0_takeFrom_33 : decode cX0_takeFrom 33 = .ok (.iconst 0, 1) := by decide +kernel
theorem dX0_takeFrom_34 : decode cX0_takeFrom 34 = .ok (.bipush 12, 2) := by decide +kernel
theorem dX0_takeFrom_36 : decode cX0_takeFrom 36 = .ok (.invokestatic 28, 3) := by decide +kernel
theorem dX0_takeFrom_39 : decode cX0_takeFrom 39 = .ok (.aload_n 1, 1) := by decide +kernel
theorem dX0_takeFrom_40 : decode cX0_takeFrom 40 = .ok (.getfield 15, 3) := by decide +kernel
theorem dX0_takeFrom_43 : decode cX0_takeFrom 43 = .ok (.iconst 0, 1) := by decide +kernel
theorem dX0_takeFrom_44 : decode cX0_takeFrom 44 = .ok (.aload_n 0, 1) := by decide +kernel
theorem dX0_takeFrom_45 : decode cX0_takeFrom 45 = .ok (.getfield 15, 3) := by decide +kernel
theorem dX0_takeFrom_48 : decode cX0_takeFrom 48 = .ok (.iconst 0, 1) := by decide +kernel
theorem dX0_takeFrom_49 : decode cX0_takeFrom 49 = .ok (.iconst 4, 1) := by decide +kernel
theorem dX0_takeFrom_50 : decode cX0_takeFrom 50 = .ok (.invokestatic 28, 3) := by decide +kernel
theorem dX0_takeFrom_53 : decode cX0_takeFrom 53 = .ok (.return_, 1) := by decide +kernel
theorem s2_0 : aW d 2 0 [.ref o, l1] S h Q = aW d 2 1 [.ref o, l1] (.ref o :: S) h Q := ax_aload_n mt2 dX0_takeFrom_0 rfl
theorem s2_1 : aW d 2 1 [l0, .ref o] S h Q = aW d 2 2 [l0, .ref o] (.ref o :: S) h Q := ax_aload_n mt2 dX0_takeFrom_1 rfl
theorem s2_2 (hT : gT h o = some (3, 5)) : aW d 2 2 L (.ref o :: S) h Q = aW d 2 5 L (.int (gI h o 0) :: S) h Q := ax_geti mt2 dX0_takeFrom_2 (by decide) ft_18 fk_18 hT
theorem s2_5 (hT : gT h o = some (3, 5)) : aW d 2 5 L (.int a :: .ref o :: S) h Q = aW d 2 8 L S (pI h o 0 a) Q := ax_puti mt2 dX0_takeFrom_5 (by decide) ft_18 (fun q => fn_18 q.1) fp_18 hT
theorem s2_8 : aW d 2 8 [.ref o, l1] S h Q = aW d 2 9 [.ref o, l1] (.ref o :: S) h Q := ax_aload_n mt2 dX0_takeFrom_8 rfl
theorem s2_9 : aW d 2 9 [l0, .ref o] S h Q = aW d 2 10 [l0, .ref o] (.ref o :: S) h Q := ax_aload_n mt2 dX0_takeFrom_9 rfl
theorem s2_10 (hT : gT h o = some (3, 5)) : aW d 2 10 L (.ref o :: S) h Q = aW d 2 13 L (.int (gI h o 1) :: S) h Q := ax_geti mt2 dX0_takeFrom_10 (by decide) ft_22 fk_22 hT
theorem s2_13 (hT : gT h o = some (3, 5)) : aW d 2 13 L (.int a :: .ref o :: S) h Q = aW d 2 16 L S (pI h o 1 a) Q := ax_puti mt2 dX0_takeFrom_13 (by decide) ft_22 (fun q => fn_22 q.1) fp_22 hT
theorem s2_16 : aW d 2 16 [.ref o, l1] S h Q = aW d 2 17 [.ref o, l1] (.ref o :: S) h Q := ax_aload_n mt2 dX0_takeFrom_16 rfl
theorem s2_17 : aW d 2 17 [l0, .ref o] S h Q = aW d 2 18 [l0, .ref o] (.ref o :: S) h Q := ax_aload_n mt2 dX0_takeFrom_17 rfl
theorem s2_18 (hT : gT h o = some (3, 5)) : aW d 2 18 L (.ref o :: S) h Q = aW d 2 21 L (.int (gI h o 2) :: S) h Q := ax_geti mt2 dX0_takeFrom_18 (by decide) ft_25 fk_25 hT
theorem s2_21 (hT : gT h o = some (3, 5)) : aW d 2 21 L (.int a :: .ref o :: S) h Q = aW d 2 24 L S (pI h o 2 a) Q := ax_puti mt2 dX0_takeFrom_21 (by decide) ft_25 (fun q => fn_25 q.1) fp_25 hT
theorem s2_24 : aW d 2 24 [l0, .ref o] S h Q = aW d 2 25 [l0, .ref o] (.ref o :: S) h Q := ax_aload_n mt2 dX0_takeFrom_24 rfl
theorem s2_25 (hT : gT h o = some (3, 5)) : aW d 2 25 L (.ref o :: S) h Q = (isRf (gR h o 3) = true ∧ aW d 2 28 L (gR h o 3 :: S) h Q) := ax_geta mt2 dX0_takeFrom_25 (by decide) ft_9 fk_9 hT
theorem s2_28 : aW d 2 28 L S h Q = aW d 2 29 L (.int (nI 0) :: S) h Q := ax_iconst mt2 dX0_takeFrom_28 ic_0
theorem s2_29 : aW d 2 29 [.ref o, l1] S h Q = aW d 2 30 [.ref o, l1] (.ref o :: S) h Q := ax_aload_n mt2 dX0_takeFrom_29 rfl
theorem s2_30 (hT : gT h o = some (3, 5)) : aW d 2 30 L (.ref o :: S) h Q = (isRf (gR h o 3) = true ∧ aW d 2 33 L (gR h o 3 :: S) h Q) := ax_geta mt2 dX0_takeFrom_30 (by decide) ft_9 fk_9 hT
theorem s2_33 : aW d 2 33 L S h Q = aW d 2 34 L (.int (nI 0) :: S) h Q := ax_iconst mt2 dX0_takeFrom_33 ic_0
theorem s2_34 : aW d 2 34 L S h Q = aW d 2 36 L (.int (nI 12) :: S) h Q := ax_bipush mt2 dX0_takeFrom_34 bp_12
theorem s2_36 {n0 n1 : Nat} (hT0 : gT h o = some (0, n0)) (hT1 : gT h o2 = some (0, n1)) (hc : ¬ x1 < 0 ∧ ¬ x2 < 0 ∧ ¬ x3 < 0 ∧ x1.toNatClampNeg + x3.toNatClampNeg ≤ n0 ∧ x2.toNatClampNeg + x3.toNatClampNeg ≤ n1) : aW (d + 1) 2 36 L (.int x3 :: .int x2 :: .ref o2 :: .int x1 :: .ref o :: []) h Q = aW (d + 1) 2 39 L [] (pA h o2 (va_cpy (gI h o) (gI h o2) x1.toNatClampNeg x2.toNatClampNeg x3.toNatClampNeg)) Q := ax_acpy mt2 dX0_takeFrom_36 (by decide) ct_28 (Nat.le_of_ble_eq_true rfl) hT0 hT1 hc
theorem s2_39 : aW d 2 39 [l0, .ref o] S h Q = aW d 2 40 [l0, .ref o] (.ref o :: S) h Q := ax_aload_n mt2 dX0_takeFrom_39 rfl
theorem s2_40 (hT : gT h o = some (3, 5)) : aW d 2 40 L (.ref o :: S) h Q = (isRf (gR h o 4) = true ∧ aW d 2 43 L (gR h o 4 :: S) h Q) := ax_geta mt2 dX0_takeFrom_40 (by decide) ft_15 fk_15 hT
theorem s2_43 : aW d 2 43 L S h Q = aW d 2 44 L (.int (nI 0) :: S) h Q := ax_iconst mt2 dX0_takeFrom_43 ic_0
theorem s2_44 : aW d 2 44 [.ref o, l1] S h Q = aW d 2 45 [.ref o, l1] (.ref o :: S) h Q := ax_aload_n mt2 dX0_takeFrom_44 rfl
theorem s2_45 (hT : gT h o = some (3, 5)) : aW d 2 45 L (.ref o :: S) h Q = (isRf (gR h o 4) = true ∧ aW d 2 48 L (gR h o 4 :: S) h Q) := ax_geta mt2 dX0_takeFrom_45 (by decide) ft_15 fk_15 hT
theorem s2_48 : aW d 2 48 L S h Q = aW d 2 49 L (.int (nI 0) :: S) h Q := ax_iconst mt2 dX0_takeFrom_48 ic_0
theorem s2_49 : aW d 2 49 L S h Q = aW d 2 50 L (.int (nI 4) :: S) h Q := ax_iconst mt2 dX0_takeFrom_49 ic_4
theorem s2_50 {n0 n1 : Nat} (hT0 : gT h o = some (0, n0)) (hT1 : gT h o2 = some (0, n1)) (hc : ¬ x1 < 0 ∧ ¬ x2 < 0 ∧ ¬ x3 < 0 ∧ x1.toNatClampNeg + x3.toNatClampNeg ≤ n0 ∧ x2.toNatClampNeg + x3.toNatClampNeg ≤ n1) : aW (d + 1) 2 50 L (.int x3 :: .int x2 :: .ref o2 :: .int x1 :: .ref o :: []) h Q = aW (d + 1) 2 53 L [] (pA h o2 (va_cpy (gI h o) (gI h o2) x1.toNatClampNeg x2.toNatClampNeg x3.toNatClampNeg)) Q := ax_acpy mt2 dX0_takeFrom_50 (by decide) ct_28 (Nat.le_of_ble_eq_true rfl) hT0 hT1 hc
theorem s2_53 : aW d 2 53 L [] h Q = Q none h := ax_retv mt2 dX0_takeFrom_53 rfl
-- method 3: BufferRoom$Floor.walk(LBufferRoom$Timeline;)V
theorem dX0_walk_0 : decode cX0_walk 0 = .ok (.aload_n 1, 1) := by decide +kernel
theorem dX0_walk_1 : decode cX0_walk 1 = .ok (.getfield 34, 3) := by decide +kernel
theorem dX0_walk_4 : decode cX0_walk 4 = .ok (.getfield 40, 3) := by decide +kernel
theorem dX0_walk_7 : decode cX0_walk 7 = .ok (.astore_n 2, 1) := by decide +kernel
theorem dX0_walk_8 : decode cX0_walk 8 = .ok (.aload_n 1, 1) := by decide +kernel
theorem dX0_walk_9 : decode cX0_walk 9 = .ok (.getfield 45, 3) := by decide +kernel
theorem dX0_walk_12 : decode cX0_walk 12 = .ok (.aload_n 0, 1) := by decide +kernel
theorem dX0_walk_13 : decode cX0_walk 13 = .ok (.getfield 18, 3) := by decide +kernel
theorem dX0_walk_16 : decode cX0_walk 16 = .ok (.iaload, 1) := by decide +kernel
theorem dX0_walk_17 : decode cX0_walk 17 = .ok (.istore_n 3, 1) := by decide +kernel
theorem dX0_walk_18 : decode cX0_walk 18 = .ok (.aload_n 0, 1) := by decide +kernel
theorem dX0_walk_19 : decode cX0_walk 19 = .ok (.getfield 18, 3) := by decide +kernel
theorem dX0_walk_22 : decode cX0_walk 22 = .ok (.ifCond .ne 8, 3) := by decide +kernel
theorem dX0_walk_25 : decode cX0_walk 25 = .ok (.aload_n 0, 1) := by decide +kernel
theorem dX0_walk_26 : decode cX0_walk 26 = .ok (.aload_n 1, 1) := by decide +kernel
theorem dX0_walk_27 : decode cX0_walk 27 = .ok (.invokevirtual 48, 3) := by decide +kernel
theorem dX0_walk_30 : decode cX0_walk 30 = .ok (.aload_n 0, 1) := by decide +kernel
theorem dX0_walk_31 : decode cX0_walk 31 = .ok (.aload_n 1, 1) := by decide +kernel
theorem dX0_walk_32 : decode cX0_walk 32 = .ok (.getfield 52, 3) := by decide +kernel
theorem dX0_walk_35 : decode cX0_walk 35 = .ok (.getfield 56, 3) := by decide +kernel
theorem dX0_walk_38 : decode cX0_walk 38 = .ok (.iload_n 3, 1) := by decide +kernel
theorem dX0_walk_39 : decode cX0_walk 39 = .ok (.iaload, 1) := by decide +kernel
theorem dX0_walk_40 : decode cX0_walk 40 = .ok (.aload_n 1, 1) := by decide +kernel
theorem dX0_walk_41 : decode cX0_walk 41 = .ok (.getfield 61, 3) := by decide +kernel
theorem dX0_walk_44 : decode cX0_walk 44 = .ok (.aload_n 0, 1) := by decide +kernel
theorem dX0_walk_45 : decode cX0_walk 45 = .ok (.getfield 18, 3) := by decide +kernel
theorem dX0_walk_48 : decode cX0_walk 48 = .ok (.iaload, 1) := by decide +kernel
theorem dX0_walk_49 : decode cX0_walk 49 = .ok (.aload_n 2, 1) := by decide +kernel
theorem dX0_walk_50 : decode cX0_walk 50 = .ok (.invokevirtual 64, 3) := by decide +kernel
theorem dX0_walk_53 : decode cX0_walk 53 = .ok (.aload_n 0, 1) := by decide +kernel
theorem dX0_walk_54 : decode cX0_walk 54 = .ok (.aload_n 0, 1) := by decide +kernel
theorem dX0_walk_55 : decode cX0_walk 55 = .ok (.getfield 22, 3) := by decide +kernel
theorem dX0_walk_58 : decode cX0_walk 58 = .ok (.aload_n 0, 1) := by decide +kernel
theorem dX0_walk_59 : decode cX0_walk 59 = .ok (.aload_n 2, 1) := by decide +kernel
theorem dX0_walk_60 : decode cX0_walk 60 = .ok (.invokevirtual 68, 3) := by decide +kernel
theorem dX0_walk_63 : decode cX0_walk 63 = .ok (.aload_n 1, 1) := by decide +kernel
theorem dX0_walk_64 : decode cX0_walk 64 = .ok (.getfield 34, 3) := by decide +kernel
theorem dX0_walk_67 : decode cX0_walk 67 = .ok (.getfield 72, 3) := by decide +kernel
theorem dX0_walk_70 : decode cX0_walk 70 = .ok (.iload_n 3, 1) := by decide +kernel
theorem dX0_walk_71 : decode cX0_walk 71 = .ok (.iaload, 1) := by decide +kernel
theorem dX0_walk_72 : decode cX0_walk 72 = .ok (.iadd, 1) := by decide +kernel
theorem dX0_walk_73 : decode cX0_walk 73 = .ok (.invokestatic 75, 3) := by decide +kernel
theorem dX0_walk_76 : decode cX0_walk 76 = .ok (.putfield 22, 3) := by decide +kernel
theorem dX0_walk_79 : decode cX0_walk 79 = .ok (.iconst 0, 1) := by decide +kernel
theorem dX0_walk_80 : decode cX0_walk 80 = .ok (.istore 4, 2) := by decide +kernel
theorem dX0_walk_82 : decode cX0_walk 82 = .ok (.iload 4, 2) := by decide +kernel
theorem dX0_walk_84 : decode cX0_walk 84 = .ok (.bipush 12, 2) := by decide +kernel
theorem dX0_walk_86 : decode cX0_walk 86 = .ok (.if_icmp .ge 31, 3) := by decide +kernel
theorem dX0_walk_89 : decode cX0_walk 89 = .ok (.aload_n 1, 1) := by decide +kernel
theorem dX0_walk_90 : decode cX0_walk 90 = .ok (.getfield 81, 3) := by decide +kernel
theorem dX0_walk_93 : decode cX0_walk 93 = .ok (.iload 4, 2) := by decide +kernel
theorem dX0_walk_95 : decode cX0_walk 95 = .ok (.iaload, 1) := by decide +kernel
theorem dX0_walk_96 : decode cX0_walk 96 = .ok (.aload_n 0, 1) := by decide +kernel
theorem dX0_walk_97 : decode cX0_walk 97 = .ok (.getfield 18, 3) := by decide +kernel
theorem dX0_walk_100 : decode cX0_walk 100 = .ok (.if_icmp .gt 11, 3) := by decide +kernel
theorem dX0_walk_103 : decode cX0_walk 103 = .ok (.aload_n 0, 1) := by decide +kernel
theorem dX0_walk_104 : decode cX0_walk 104 = .ok (.getfield 9, 3) := by decide +kernel
theorem dX0_walk_107 : decode cX0_walk 107 = .ok (.iload 4, 2) := by decide +kernel
theorem dX0_walk_109 : decode cX0_walk 109 = .ok (.iconst (-1), 1) := by decide +kernel
theorem dX0_walk_110 : decode cX0_walk 110 = .ok (.iastore, 1) := by decide +kernel
theorem dX0_walk_111 : decode cX0_walk 111 = .ok (.iinc 4 1, 3) := by decide +kernel
theorem dX0_walk_114 : decode cX0_walk 114 = .ok (.goto (-32), 3) := by decide +kernel
theorem dX0_walk_117 : decode cX0_walk 117 = .ok (.aload_n 0, 1) := by decide +kernel
theorem dX0_walk_118 : decode cX0_walk 118 = .ok (.dup, 1) := by decide +kernel
theorem dX0_walk_119 : decode cX0_walk 119 = .ok (.getfield 18, 3) := by decide +kernel
theorem dX0_walk_122 : decode cX0_walk 122 = .ok (.iconst 1, 1) := by decide +kernel
theorem dX0_walk_123 : decode cX0_walk 123 = .ok (.iadd, 1) := by decide +kernel
theorem dX0_walk_124 : decode cX0_walk 124 = .ok (.putfield 18, 3) := by decide +kernel
theorem dX0_walk_127 : decode cX0_walk 127 = .ok (.return_, 1) := by decide +kernel
theorem s3_0 : aW d 3 0 [l0, .ref o, l2, l3, l4] S h Q = aW d 3 1 [l0, .ref o, l2, l3, l4] (.ref o :: S) h Q := ax_aload_n mt3 dX0_walk_0 rfl
theorem s3_1 (hT : gT h o = some (12, 9)) : aW d 3 1 L (.ref o :: S) h Q = (isRf (gR h o 0) = true ∧ aW d 3 4 L (gR h o 0 :: S) h Q) := ax_geta mt3 dX0_walk_1 (by decide) ft_34 fk_34 hT
theorem s3_4 (hT : gT h o = some (5, 4)) : aW d 3 4 L (.ref o :: S) h Q = (isRf (gR h o 1) = true ∧ aW d 3 7 L (gR h o 1 :: S) h Q) := ax_geta mt3 dX0_walk_4 (by decide) ft_40 fk_40 hT
theorem s3_7 : aW d 3 7 [l0, l1, l2, l3, l4] (.ref o :: S) h Q = aW d 3 8 [l0, l1, .ref o, l3, l4] S h Q := ax_astore_n mt3 dX0_walk_7 (Nat.le_of_ble_eq_true rfl) rfl
theorem s3_8 : aW d 3 8 [l0, .ref o, l2, l3, l4] S h Q = aW d 3 9 [l0, .ref o, l2, l3, l4] (.ref o :: S) h Q := ax_aload_n mt3 dX0_walk_8 rfl
theorem s3_9 (hT : gT h o = some (12, 9)) : aW d 3 9 L (.ref o :: S) h Q = (isRf (gR h o 4) = true ∧ aW d 3 12 L (gR h o 4 :: S) h Q) := ax_geta mt3 dX0_walk_9 (by decide) ft_45 fk_45 hT
theorem s3_12 : aW d 3 12 [.ref o, l1, l2, l3, l4] S h Q = aW d 3 13 [.ref o, l1, l2, l3, l4] (.ref o :: S) h Q := ax_aload_n mt3 dX0_walk_12 rfl
theorem s3_13 (hT : gT h o = some (3, 5)) : aW d 3 13 L (.ref o :: S) h Q = aW d 3 16 L (.int (gI h o 0) :: S) h Q := ax_geti mt3 dX0_walk_13 (by decide) ft_18 fk_18 hT
theorem s3_16 : aW d 3 16 L (.int a :: .ref o :: S) h Q = (inb a (aI h o) ∧ aW d 3 17 L (.int (gI h o a.toNatClampNeg) :: S) h Q) := ax_iald mt3 dX0_walk_16
theorem s3_17 : aW d 3 17 [l0, l1, l2, l3, l4] (.int a :: S) h Q = aW d 3 18 [l0, l1, l2, .int a, l4] S h Q := ax_istore_n mt3 dX0_walk_17 (Nat.le_of_ble_eq_true rfl) rfl
theorem s3_18 : aW d 3 18 [.ref o, l1, l2, l3, l4] S h Q = aW d 3 19 [.ref o, l1, l2, l3, l4] (.ref o :: S) h Q := ax_aload_n mt3 dX0_walk_18 rfl
theorem s3_19 (hT : gT h o = some (3, 5)) : aW d 3 19 L (.ref o :: S) h Q = aW d 3 22 L (.int (gI h o 0) :: S) h Q := ax_geti mt3 dX0_walk_19 (by decide) ft_18 fk_18 hT
theorem s3_22 : aW d 3 22 L (.int a :: S) h Q = (if a = 0 then aW d 3 25 L S h Q else aW d 3 30 L S h Q) := ax_if_ne mt3 dX0_walk_22 (by decide)
theorem s3_25 : aW d 3 25 [.ref o, l1, l2, l3, l4] S h Q = aW d 3 26 [.ref o, l1, l2, l3, l4] (.ref o :: S) h Q := ax_aload_n mt3 dX0_walk_25 rfl
theorem s3_26 : aW d 3 26 [l0, .ref o, l2, l3, l4] S h Q = aW d 3 27 [l0, .ref o, l2, l3, l4] (.ref o :: S) h Q := ax_aload_n mt3 dX0_walk_26 rfl
theorem s3_27 (hT : gT h o = some (3, 5)) : aW (d + 1) 3 27 L (.ref p0 :: .ref o :: []) h Q = aM d 4 (.ref o :: [.ref p0]) h (fun v h1 => aW (d + 1) 3 30 L (ab_ps v []) h1 Q) := ax_invv mt3 dX0_walk_27 (by decide) ct_48 (.inl rfl) mt4 ⟨⟨Nat.le_of_ble_eq_true rfl, Nat.le_of_ble_eq_true rfl, Nat.le_of_ble_eq_true rfl⟩, rfl, rfl, rfl⟩ hT
theorem s3_30 : aW d 3 30 [.ref o, l1, l2, l3, l4] S h Q = aW d 3 31 [.ref o, l1, l2, l3, l4] (.ref o :: S) h Q := ax_aload_n mt3 dX0_walk_30 rfl
theorem s3_31 : aW d 3 31 [l0, .ref o, l2, l3, l4] S h Q = aW d 3 32 [l0, .ref o, l2, l3, l4] (.ref o :: S) h Q := ax_aload_n mt3 dX0_walk_31 rfl
theorem s3_32 (hT : gT h o = some (12, 9)) : aW d 3 32 L (.ref o :: S) h Q = (isRf (gR h o 1) = true ∧ aW d 3 35 L (gR h o 1 :: S) h Q) := ax_geta mt3 dX0_walk_32 (by decide) ft_52 fk_52 hT
theorem s3_35 (hT : gT h o = some (8, 12)) : aW d 3 35 L (.ref o :: S) h Q = (isRf (gR h o 9) = true ∧ aW d 3 38 L (gR h o 9 :: S) h Q) := ax_geta mt3 dX0_walk_35 (by decide) ft_56 fk_56 hT
theorem s3_38 : aW d 3 38 [l0, l1, l2, .int a, l4] S h Q = aW d 3 39 [l0, l1, l2, .int a, l4] (.int a :: S) h Q := ax_iload_n mt3 dX0_walk_38 rfl
theorem s3_39 : aW d 3 39 L (.int a :: .ref o :: S) h Q = (inb a (aI h o) ∧ aW d 3 40 L (.int (gI h o a.toNatClampNeg) :: S) h Q) := ax_iald mt3 dX0_walk_39
theorem s3_40 : aW d 3 40 [l0, .ref o, l2, l3, l4] S h Q = aW d 3 41 [l0, .ref o, l2, l3, l4] (.ref o :: S) h Q := ax_aload_n mt3 dX0_walk_40 rfl
theorem s3_41 (hT : gT h o = some (12, 9)) : aW d 3 41 L (.ref o :: S) h Q = (isRf (gR h o 5) = true ∧ aW d 3 44 L (gR h o 5 :: S) h Q) := ax_geta mt3 dX0_walk_41 (by decide) ft_61 fk_61 hT
theorem s3_44 : aW d 3 44 [.ref o, l1, l2, l3, l4] S h Q = aW d 3 45 [.ref o, l1, l2, l3, l4] (.ref o :: S) h Q := ax_aload_n mt3 dX0_walk_44 rfl
theorem s3_45 (hT : gT h o = some (3, 5)) : aW d 3 45 L (.ref o :: S) h Q = aW d 3 48 L (.int (gI h o 0) :: S) h Q := ax_geti mt3 dX0_walk_45 (by decide) ft_18 fk_18 hT
theorem s3_48 : aW d 3 48 L (.int a :: .ref o :: S) h Q = (inb a (aI h o) ∧ aW d 3 49 L (.int (gI h o a.toNatClampNeg) :: S) h Q) := ax_iald mt3 dX0_walk_48
theorem s3_49 : aW d 3 49 [l0, l1, .ref o, l3, l4] S h Q = aW d 3 50 [l0, l1, .ref o, l3, l4] (.ref o :: S) h Q := ax_aload_n mt3 dX0_walk_49 rfl
theorem s3_50 (hT : gT h o = some (3, 5)) : aW (d + 1) 3 50 L (.ref p2 :: .int x1 :: .int x0 :: .ref o :: []) h Q = aM d 5 (.ref o :: [.int x0, .int x1, .ref p2]) h (fun v h1 => aW (d + 1) 3 53 L (ab_ps v []) h1 Q) := ax_invv mt3 dX0_walk_50 (by decide) ct_64 (.inl rfl) mt5 ⟨⟨Nat.le_of_ble_eq_true rfl, Nat.le_of_ble_eq_true rfl, Nat.le_of_ble_eq_true rfl⟩, rfl, rfl, rfl⟩ hT
theorem s3_53 : aW d 3 53 [.ref o, l1, l2, l3, l4] S h Q = aW d 3 54 [.ref o, l1, l2, l3, l4] (.ref o :: S) h Q := ax_aload_n mt3 dX0_walk_53 rfl
theorem s3_54 : aW d 3 54 [.ref o, l1, l2, l3, l4] S h Q = aW d 3 55 [.ref o, l1, l2, l3, l4] (.ref o :: S) h Q := ax_aload_n mt3 dX0_walk_54 rfl
theorem s3_55 (hT : gT h o = some (3, 5)) : aW d 3 55 L (.ref o :: S) h Q = aW d 3 58 L (.int (gI h o 1) :: S) h Q := ax_geti mt3 dX0_walk_55 (by decide) ft_22 fk_22 hT
theorem s3_58 : aW d 3 58 [.ref o, l1, l2, l3, l4] S h Q = aW d 3 59 [.ref o, l1, l2, l3, l4] (.ref o :: S) h Q := ax_aload_n mt3 dX0_walk_58 rfl
theorem s3_59 : aW d 3 59 [l0, l1, .ref o, l3, l4] S h Q = aW d 3 60 [l0, l1, .ref o, l3, l4] (.ref o :: S) h Q := ax_aload_n mt3 dX0_walk_59 rfl
theorem s3_60 (hT : gT h o = some (3, 5)) : aW (d + 1) 3 60 L (.ref p0 :: .ref o :: [.int y0, .ref q1]) h Q = aM d 9 (.ref o :: [.ref p0]) h (fun v h1 => aW (d + 1) 3 63 L (ab_ps v [.int y0, .ref q1]) h1 Q) := ax_invv mt3 dX0_walk_60 (by decide) ct_68 (.inl rfl) mt9 ⟨⟨Nat.le_of_ble_eq_true rfl, Nat.le_of_ble_eq_true rfl, Nat.le_of_ble_eq_true rfl⟩, rfl, rfl, rfl⟩ hT
theorem s3_63 : aW d 3 63 [l0, .ref o, l2, l3, l4] S h Q = aW d 3 64 [l0, .ref o, l2, l3, l4] (.ref o :: S) h Q := ax_aload_n mt3 dX0_walk_63 rfl
theorem s3_64 (hT : gT h o = some (12, 9)) : aW d 3 64 L (.ref o :: S) h Q = (isRf (gR h o 0) = true ∧ aW d 3 67 L (gR h o 0 :: S) h Q) := ax_geta mt3 dX0_walk_64 (by decide) ft_34 fk_34 hT
theorem s3_67 (hT : gT h o = some (5, 4)) : aW d 3 67 L (.ref o :: S) h Q = (isRf (gR h o 2) = true ∧ aW d 3 70 L (gR h o 2 :: S) h Q) := ax_geta mt3 dX0_walk_67 (by decide) ft_72 fk_72 hT
theorem s3_70 : aW d 3 70 [l0, l1, l2, .int a, l4] S h Q = aW d 3 71 [l0, l1, l2, .int a, l4] (.int a :: S) h Q := ax_iload_n mt3 dX0_walk_70 rfl
theorem s3_71 : aW d 3 71 L (.int a :: .ref o :: S) h Q = (inb a (aI h o) ∧ aW d 3 72 L (.int (gI h o a.toNatClampNeg) :: S) h Q) := ax_iald mt3 dX0_walk_71
theorem s3_72 : aW d 3 72 L (.int b :: .int a :: S) h Q = aW d 3 73 L (.int (a + b) :: S) h Q := ax_iadd mt3 dX0_walk_72
theorem s3_73 : aW (d + 1) 3 73 L (.int b :: .int a :: [.ref q0]) h Q = aW (d + 1) 3 76 L (.int (iMax a b) :: [.ref q0]) h Q := ax_max mt3 dX0_walk_73 (by decide) ct_75 (Nat.le_of_ble_eq_true rfl)
theorem s3_76 (hT : gT h o = some (3, 5)) : aW d 3 76 L (.int a :: .ref o :: S) h Q = aW d 3 79 L S (pI h o 1 a) Q := ax_puti mt3 dX0_walk_76 (by decide) ft_22 (fun q => fn_22 q.1) fp_22 hT
theorem s3_79 : aW d 3 79 L S h Q = aW d 3 80 L (.int (nI 0) :: S) h Q := ax_iconst mt3 dX0_walk_79 ic_0
theorem s3_80 : aW d 3 80 [l0, l1, l2, l3, l4] (.int a :: S) h Q = aW d 3 82 [l0, l1, l2, l3, .int a] S h Q := ax_istore mt3 dX0_walk_80 (Nat.le_of_ble_eq_true rfl) rfl
theorem s3_82 : aW d 3 82 [l0, l1, l2, l3, .int a] S h Q = aW d 3 84 [l0, l1, l2, l3, .int a] (.int a :: S) h Q := ax_iload mt3 dX0_walk_82 rfl
theorem s3_84 : aW d 3 84 L S h Q = aW d 3 86 L (.int (nI 12) :: S) h Q := ax_bipush mt3 dX0_walk_84 bp_12
theorem s3_86 : aW d 3 86 L (.int b :: .int a :: S) h Q = (if a < b then aW d 3 89 L S h Q else aW d 3 117 L S h Q) := ax_icmp_ge mt3 dX0_walk_86 (by decide)
theorem s3_89 : aW d 3 89 [l0, .ref o, l2, l3, l4] S h Q = aW d 3 90 [l0, .ref o, l2, l3, l4] (.ref o :: S) h Q := ax_aload_n mt3 dX0_walk_89 rfl
theorem s3_90 (hT : gT h o = some (12, 9)) : aW d 3 90 L (.ref o :: S) h Q = (isRf (gR h o 8) = true ∧ aW d 3 93 L (gR h o 8 :: S) h Q) := ax_geta mt3 dX0_walk_90 (by decide) ft_81 fk_81 hT
theorem s3_93 : aW d 3 93 [l0, l1, l2, l3, .int a] S h Q = aW d 3 95 [l0, l1, l2, l3, .int a] (.int a :: S) h Q := ax_iload mt3 dX0_walk_93 rfl
theorem s3_95 : aW d 3 95 L (.int a :: .ref o :: S) h Q = (inb a (aI h o) ∧ aW d 3 96 L (.int (gI h o a.toNatClampNeg) :: S) h Q) := ax_iald mt3 dX0_walk_95
theorem s3_96 : aW d 3 96 [.ref o, l1, l2, l3, l4] S h Q = aW d 3 97 [.ref o, l1, l2, l3, l4] (.ref o :: S) h Q := ax_aload_n mt3 dX0_walk_96 rfl
theorem s3_97 (hT : gT h o = some (3, 5)) : aW d 3 97 L (.ref o :: S) h Q = aW d 3 100 L (.int (gI h o 0) :: S) h Q := ax_geti mt3 dX0_walk_97 (by decide) ft_18 fk_18 hT
theorem s3_100 : aW d 3 100 L (.int b :: .int a :: S) h Q = (if b < a then aW d 3 111 L S h Q else aW d 3 103 L S h Q) := ax_icmp_gt mt3 dX0_walk_100 (by decide)
theorem s3_103 : aW d 3 103 [.ref o, l1, l2, l3, l4] S h Q = aW d 3 104 [.ref o, l1, l2, l3, l4] (.ref o :: S) h Q := ax_aload_n mt3 dX0_walk_103 rfl
theorem s3_104 (hT : gT h o = some (3, 5)) : aW d 3 104 L (.ref o :: S) h Q = (isRf (gR h o 3) = true ∧ aW d 3 107 L (gR h o 3 :: S) h Q) := ax_geta mt3 dX0_walk_104 (by decide) ft_9 fk_9 hT
theorem s3_107 : aW d 3 107 [l0, l1, l2, l3, .int a] S h Q = aW d 3 109 [l0, l1, l2, l3, .int a] (.int a :: S) h Q := ax_iload mt3 dX0_walk_107 rfl
theorem s3_109 : aW d 3 109 L S h Q = aW d 3 110 L (.int ((-1)) :: S) h Q := ax_iconst mt3 dX0_walk_109 ic_m1
theorem s3_110 : aW d 3 110 L (.int b :: .int a :: .ref o :: S) h Q = (inb a (aJ h o) ∧ aW d 3 111 L S (pI h o a.toNatClampNeg b) Q) := ax_iast mt3 dX0_walk_110
theorem s3_111 : aW d 3 111 [l0, l1, l2, l3, .int a] S h Q = aW d 3 114 [l0, l1, l2, l3, .int (a + nI 1)] S h Q := ax_iinc mt3 dX0_walk_111 rfl ic_1 rfl
theorem s3_114 : aW d 3 114 L S h Q = aW d 3 82 L S h Q := ax_goto mt3 dX0_walk_114 (by decide)
theorem s3_117 : aW d 3 117 [.ref o, l1, l2, l3, l4] S h Q = aW d 3 118 [.ref o, l1, l2, l3, l4] (.ref o :: S) h Q := ax_aload_n mt3 dX0_walk_117 rfl
theorem s3_118 : aW d 3 118 L (.ref o :: S) h Q = aW d 3 119 L (.ref o :: .ref o :: S) h Q := ax_dupa mt3 dX0_walk_118
theorem s3_119 (hT : gT h o = some (3, 5)) : aW d 3 119 L (.ref o :: S) h Q = aW d 3 122 L (.int (gI h o 0) :: S) h Q := ax_geti mt3 dX0_walk_119 (by decide) ft_18 fk_18 hT
theorem s3_122 : aW d 3 122 L S h Q = aW d 3 123 L (.int (nI 1) :: S) h Q := ax_iconst mt3 dX0_walk_122 ic_1
theorem s3_123 : aW d 3 123 L (.int b :: .int a :: S) h Q = aW d 3 124 L (.int (a + b) :: S) h Q := ax_iadd mt3 dX0_walk_123
theorem s3_124 (hT : gT h o = some (3, 5)) : aW d 3 124 L (.int a :: .ref o :: S) h Q = aW d 3 127 L S (pI h o 0 a) Q := ax_puti mt3 dX0_walk_124 (by decide) ft_18 (fun q => fn_18 q.1) fp_18 hT
theorem s3_127 : aW d 3 127 L [] h Q = Q none h := ax_retv mt3 dX0_walk_127 rfl
-- method 4: BufferRoom$Floor.putGiven(LBufferRoom$Timeline;)V
theorem dX0_putGiven_0 : decode cX0_putGiven 0 = .ok (.iconst 0, 1) := by decide +kernel
theorem dX0_putGiven_1 : decode cX0_putGiven 1 = .ok (.istore_n 2, 1) := by decide +kernel
theorem dX0_putGiven_2 : decode cX0_putGiven 2 = .ok (.iload_n 2, 1) := by decide +kernel
theorem dX0_putGiven_3 : decode cX0_putGiven 3 = .ok (.bipush 12, 2) := by decide +kernel
theorem dX0_putGiven_5 : decode cX0_putGiven 5 = .ok (.if_icmp .ge 47, 3) := by decide +kernel
theorem dX0_putGiven_8 : decode cX0_putGiven 8 = .ok (.aload_n 1, 1) := by decide +kernel
theorem dX0_putGiven_9 : decode cX0_putGiven 9 = .ok (.getfield 52, 3) := by decide +kernel
theorem dX0_putGiven_12 : decode cX0_putGiven 12 = .ok (.getfield 84, 3) := by decide +kernel
theorem dX0_putGiven_15 : decode cX0_putGiven 15 = .ok (.iload_n 2, 1) := by decide +kernel
theorem dX0_putGiven_16 : decode cX0_putGiven 16 = .ok (.iaload, 1) := by decide +kernel
theorem dX0_putGiven_17 : decode cX0_putGiven 17 = .ok (.ifCond .ge 29, 3) := by decide +kernel
theorem dX0_putGiven_20 : decode cX0_putGiven 20 = .ok (.aload_n 1, 1) := by decide +kernel
theorem dX0_putGiven_21 : decode cX0_putGiven 21 = .ok (.iload_n 2, 1) := by decide +kernel
theorem dX0_putGiven_22 : decode cX0_putGiven 22 = .ok (.invokevirtual 87, 3) := by decide +kernel
theorem dX0_putGiven_25 : decode cX0_putGiven 25 = .ok (.ifCond .eq 21, 3) := by decide +kernel
theorem dX0_putGiven_28 : decode cX0_putGiven 28 = .ok (.aload_n 0, 1) := by decide +kernel
theorem dX0_putGiven_29 : decode cX0_putGiven 29 = .ok (.getfield 9, 3) := by decide +kernel
theorem dX0_putGiven_32 : decode cX0_putGiven 32 = .ok (.iload_n 2, 1) := by decide +kernel
theorem dX0_putGiven_33 : decode cX0_putGiven 33 = .ok (.aload_n 0, 1) := by decide +kernel
theorem dX0_putGiven_34 : decode cX0_putGiven 34 = .ok (.iload_n 2, 1) := by decide +kernel
theorem dX0_putGiven_35 : decode cX0_putGiven 35 = .ok (.aload_n 1, 1) := by decide +kernel
theorem dX0_putGiven_36 : decode cX0_putGiven 36 = .ok (.getfield 34, 3) := by decide +kernel
theorem dX0_putGiven_39 : decode cX0_putGiven 39 = .ok (.getfield 40, 3) := by decide +kernel
theorem dX0_putGiven_42 : decode cX0_putGiven 42 = .ok (.invokevirtual 91, 3) := by decide +kernel
theorem dX0_putGiven_45 : decode cX0_putGiven 45 = .ok (.iastore, 1) := by decide +kernel
theorem dX0_putGiven_46 : decode cX0_putGiven 46 = .ok (.iinc 2 1, 3) := by decide +kernel
theorem dX0_putGiven_49 : decode cX0_putGiven 49 = .ok (.goto (-47), 3) := by decide +kernel
theorem dX0_putGiven_52 : decode cX0_putGiven 52 = .ok (.return_, 1) := by decide +kernel
theorem s4_0 : aW d 4 0 L S h Q = aW d 4 1 L (.int (nI 0) :: S) h Q := ax_iconst mt4 dX0_putGiven_0 ic_0
theorem s4_1 : aW d 4 1 [l0, l1, l2] (.int a :: S) h Q = aW d 4 2 [l0, l1, .int a] S h Q := ax_istore_n mt4 dX0_putGiven_1 (Nat.le_of_ble_eq_true rfl) rfl
theorem s4_2 : aW d 4 2 [l0, l1, .int a] S h Q = aW d 4 3 [l0, l1, .int a] (.int a :: S) h Q := ax_iload_n mt4 dX0_putGiven_2 rfl
theorem s4_3 : aW d 4 3 L S h Q = aW d 4 5 L (.int (nI 12) :: S) h Q := ax_bipush mt4 dX0_putGiven_3 bp_12
theorem s4_5 : aW d 4 5 L (.int b :: .int a :: S) h Q = (if a < b then aW d 4 8 L S h Q else aW d 4 52 L S h Q) := ax_icmp_ge mt4 dX0_putGiven_5 (by decide)
theorem s4_8 : aW d 4 8 [l0, .ref o, l2] S h Q = aW d 4 9 [l0, .ref o, l2] (.ref o :: S) h Q := ax_aload_n mt4 dX0_putGiven_8 rfl
theorem s4_9 (hT : gT h o = some (12, 9)) : aW d 4 9 L (.ref o :: S) h Q = (isRf (gR h o 1) = true ∧ aW d 4 12 L (gR h o 1 :: S) h Q) := ax_geta mt4 dX0_putGiven_9 (by decide) ft_52 fk_52 hT
theorem s4_12 (hT : gT h o = some (8, 12)) : aW d 4 12 L (.ref o :: S) h Q = (isRf (gR h o 4) = true ∧ aW d 4 15 L (gR h o 4 :: S) h Q) := ax_geta mt4 dX0_putGiven_12 (by decide) ft_84 fk_84 hT
theorem s4_15 : aW d 4 15 [l0, l1, .int a] S h Q = aW d 4 16 [l0, l1, .int a] (.int a :: S) h Q := ax_iload_n mt4 dX0_putGiven_15 rfl
theorem s4_16 : aW d 4 16 L (.int a :: .ref o :: S) h Q = (inb a (aI h o) ∧ aW d 4 17 L (.int (gI h o a.toNatClampNeg) :: S) h Q) := ax_iald mt4 dX0_putGiven_16
theorem s4_17 : aW d 4 17 L (.int a :: S) h Q = (if a < 0 then aW d 4 20 L S h Q else aW d 4 46 L S h Q) := ax_if_ge mt4 dX0_putGiven_17 (by decide)
theorem s4_20 : aW d 4 20 [l0, .ref o, l2] S h Q = aW d 4 21 [l0, .ref o, l2] (.ref o :: S) h Q := ax_aload_n mt4 dX0_putGiven_20 rfl
theorem s4_21 : aW d 4 21 [l0, l1, .int a] S h Q = aW d 4 22 [l0, l1, .int a] (.int a :: S) h Q := ax_iload_n mt4 dX0_putGiven_21 rfl
theorem s4_22 (hT : gT h o = some (12, 9)) : aW (d + 1) 4 22 L (.int x0 :: .ref o :: []) h Q = aM d 90 (.ref o :: [.int x0]) h (fun v h1 => aW (d + 1) 4 25 L (ab_ps v []) h1 Q) := ax_invv mt4 dX0_putGiven_22 (by decide) ct_87 (.inl rfl) mt90 ⟨⟨Nat.le_of_ble_eq_true rfl, Nat.le_of_ble_eq_true rfl, Nat.le_of_ble_eq_true rfl⟩, rfl, rfl, rfl⟩ hT
theorem s4_25 : aW d 4 25 L (.int a :: S) h Q = (if a = 0 then aW d 4 46 L S h Q else aW d 4 28 L S h Q) := ax_if_eq mt4 dX0_putGiven_25 (by decide)
theorem s4_28 : aW d 4 28 [.ref o, l1, l2] S h Q = aW d 4 29 [.ref o, l1, l2] (.ref o :: S) h Q := ax_aload_n mt4 dX0_putGiven_28 rfl
theorem s4_29 (hT : gT h o = some (3, 5)) : aW d 4 29 L (.ref o :: S) h Q = (isRf (gR h o 3) = true ∧ aW d 4 32 L (gR h o 3 :: S) h Q) := ax_geta mt4 dX0_putGiven_29 (by decide) ft_9 fk_9 hT
theorem s4_32 : aW d 4 32 [l0, l1, .int a] S h Q = aW d 4 33 [l0, l1, .int a] (.int a :: S) h Q := ax_iload_n mt4 dX0_putGiven_32 rfl
theorem s4_33 : aW d 4 33 [.ref o, l1, l2] S h Q = aW d 4 34 [.ref o, l1, l2] (.ref o :: S) h Q := ax_aload_n mt4 dX0_putGiven_33 rfl
theorem s4_34 : aW d 4 34 [l0, l1, .int a] S h Q = aW d 4 35 [l0, l1, .int a] (.int a :: S) h Q := ax_iload_n mt4 dX0_putGiven_34 rfl
theorem s4_35 : aW d 4 35 [l0, .ref o, l2] S h Q = aW d 4 36 [l0, .ref o, l2] (.ref o :: S) h Q := ax_aload_n mt4 dX0_putGiven_35 rfl
theorem s4_36 (hT : gT h o = some (12, 9)) : aW d 4 36 L (.ref o :: S) h Q = (isRf (gR h o 0) = true ∧ aW d 4 39 L (gR h o 0 :: S) h Q) := ax_geta mt4 dX0_putGiven_36 (by decide) ft_34 fk_34 hT
theorem s4_39 (hT : gT h o = some (5, 4)) : aW d 4 39 L (.ref o :: S) h Q = (isRf (gR h o 1) = true ∧ aW d 4 42 L (gR h o 1 :: S) h Q) := ax_geta mt4 dX0_putGiven_39 (by decide) ft_40 fk_40 hT
theorem s4_42 (hT : gT h o = some (3, 5)) : aW (d + 1) 4 42 L (.ref p1 :: .int x0 :: .ref o :: [.int y0, .ref q1]) h Q = aM d 6 (.ref o :: [.int x0, .ref p1]) h (fun v h1 => aW (d + 1) 4 45 L (ab_ps v [.int y0, .ref q1]) h1 Q) := ax_invv mt4 dX0_putGiven_42 (by decide) ct_91 (.inl rfl) mt6 ⟨⟨Nat.le_of_ble_eq_true rfl, Nat.le_of_ble_eq_true rfl, Nat.le_of_ble_eq_true rfl⟩, rfl, rfl, rfl⟩ hT
theorem s4_45 : aW d 4 45 L (.int b :: .int a :: .ref o :: S) h Q = (inb a (aJ h o) ∧ aW d 4 46 L S (pI h o a.toNatClampNeg b) Q) := ax_iast mt4 dX0_putGiven_45
theorem s4_46 : aW d 4 46 [l0, l1, .int a] S h Q = aW d 4 49 [l0, l1, .int (a + nI 1)] S h Q := ax_iinc mt4 dX0_putGiven_46 rfl ic_1 rfl
theorem s4_49 : aW d 4 49 L S h Q = aW d 4 2 L S h Q := ax_goto mt4 dX0_putGiven_49 (by decide)
theorem s4_52 : aW d 4 52 L [] h Q = Q none h := ax_retv mt4 dX0_putGiven_52 rfl
-- method 5: BufferRoom$Floor.putWritten(II[I)V
theorem dX0_putWritten_0 : decode cX0_putWritten 0 = .ok (.iload_n 2, 1) := by decide +kernel
theorem dX0_putWritten_1 : decode cX0_putWritten 1 = .ok (.ifCond .lt 34, 3) := by decide +kernel
theorem dX0_putWritten_4 : decode cX0_putWritten 4 = .ok (.aload_n 3, 1) := by decide +kernel
theorem dX0_putWritten_5 : decode cX0_putWritten 5 = .ok (.iload_n 2, 1) := by decide +kernel
theorem dX0_putWritten_6 : decode cX0_putWritten 6 = .ok (.iaload, 1) := by decide +kernel
theorem dX0_putWritten_7 : decode cX0_putWritten 7 = .ok (.aload_n 3, 1) := by decide +kernel
theorem dX0_putWritten_8 : decode cX0_putWritten 8 = .ok (.iload_n 1, 1) := by decide +kernel
theorem dX0_putWritten_9 : decode cX0_putWritten 9 = .ok (.iaload, 1) := by decide +kernel
theorem dX0_putWritten_10 : decode cX0_putWritten 10 = .ok (.if_icmp .lt 25, 3) := by decide +kernel
theorem dX0_putWritten_13 : decode cX0_putWritten 13 = .ok (.aload_n 0, 1) := by decide +kernel
theorem dX0_putWritten_14 : decode cX0_putWritten 14 = .ok (.getfield 9, 3) := by decide +kernel
theorem dX0_putWritten_17 : decode cX0_putWritten 17 = .ok (.iload_n 1, 1) := by decide +kernel
theorem dX0_putWritten_18 : decode cX0_putWritten 18 = .ok (.aload_n 0, 1) := by decide +kernel
theorem dX0_putWritten_19 : decode cX0_putWritten 19 = .ok (.getfield 9, 3) := by decide +kernel
theorem dX0_putWritten_22 : decode cX0_putWritten 22 = .ok (.iload_n 2, 1) := by decide +kernel
theorem dX0_putWritten_23 : decode cX0_putWritten 23 = .ok (.iaload, 1) := by decide +kernel
theorem dX0_putWritten_24 : decode cX0_putWritten 24 = .ok (.iastore, 1) := by decide +kernel
theorem dX0_putWritten_25 : decode cX0_putWritten 25 = .ok (.aload_n 0, 1) := by decide +kernel
theorem dX0_putWritten_26 : decode cX0_putWritten 26 = .ok (.getfield 9, 3) := by decide +kernel
theorem dX0_putWritten_29 : decode cX0_putWritten 29 = .ok (.iload_n 2, 1) := by decide +kernel
theorem dX0_putWritten_30 : decode cX0_putWritten 30 = .ok (.iconst (-1), 1) := by decide +kernel
theorem dX0_putWritten_31 : decode cX0_putWritten 31 = .ok (.iastore, 1) := by decide +kernel
theorem dX0_putWritten_32 : decode cX0_putWritten 32 = .ok (.goto 15, 3) := by decide +kernel
theorem dX0_putWritten_35 : decode cX0_putWritten 35 = .ok (.aload_n 0, 1) := by decide +kernel
theorem dX0_putWritten_36 : decode cX0_putWritten 36 = .ok (.getfield 9, 3) := by decide +kernel
theorem dX0_putWritten_39 : decode cX0_putWritten 39 = .ok (.iload_n 1, 1) := by decide +kernel
theorem dX0_putWritten_40 : decode cX0_putWritten 40 = .ok (.aload_n 0, 1) := by decide +kernel
theorem dX0_putWritten_41 : decode cX0_putWritten 41 = .ok (.iload_n 1, 1) := by decide +kernel
theorem dX0_putWritten_42 : decode cX0_putWritten 42 = .ok (.aload_n 3, 1) := by decide +kernel
theorem dX0_putWritten_43 : decode cX0_putWritten 43 = .ok (.invokevirtual 91, 3) := by decide +kernel
theorem dX0_putWritten_46 : decode cX0_putWritten 46 = .ok (.iastore, 1) := by decide +kernel
theorem dX0_putWritten_47 : decode cX0_putWritten 47 = .ok (.return_, 1) := by decide +kernel
theorem s5_0 : aW d 5 0 [l0, l1, .int a, l3] S h Q = aW d 5 1 [l0, l1, .int a, l3] (.int a :: S) h Q := ax_iload_n mt5 dX0_putWritten_0 rfl
theorem s5_1 : aW d 5 1 L (.int a :: S) h Q = (if a < 0 then aW d 5 35 L S h Q else aW d 5 4 L S h Q) := ax_if_lt mt5 dX0_putWritten_1 (by decide)
theorem s5_4 : aW d 5 4 [l0, l1, l2, .ref o] S h Q = aW d 5 5 [l0, l1, l2, .ref o] (.ref o :: S) h Q := ax_aload_n mt5 dX0_putWritten_4 rfl
theorem s5_5 : aW d 5 5 [l0, l1, .int a, l3] S h Q = aW d 5 6 [l0, l1, .int a, l3] (.int a :: S) h Q := ax_iload_n mt5 dX0_putWritten_5 rfl
theorem s5_6 : aW d 5 6 L (.int a :: .ref o :: S) h Q = (inb a (aI h o) ∧ aW d 5 7 L (.int (gI h o a.toNatClampNeg) :: S) h Q) := ax_iald mt5 dX0_putWritten_6
theorem s5_7 : aW d 5 7 [l0, l1, l2, .ref o] S h Q = aW d 5 8 [l0, l1, l2, .ref o] (.ref o :: S) h Q := ax_aload_n mt5 dX0_putWritten_7 rfl
theorem s5_8 : aW d 5 8 [l0, .int a, l2, l3] S h Q = aW d 5 9 [l0, .int a, l2, l3] (.int a :: S) h Q := ax_iload_n mt5 dX0_putWritten_8 rfl
theorem s5_9 : aW d 5 9 L (.int a :: .ref o :: S) h Q = (inb a (aI h o) ∧ aW d 5 10 L (.int (gI h o a.toNatClampNeg) :: S) h Q) := ax_iald mt5 dX0_putWritten_9
theorem s5_10 : aW d 5 10 L (.int b :: .int a :: S) h Q = (if a < b then aW d 5 35 L S h Q else aW d 5 13 L S h Q) := ax_icmp_lt mt5 dX0_putWritten_10 (by decide)
theorem s5_13 : aW d 5 13 [.ref o, l1, l2, l3] S h Q = aW d 5 14 [.ref o, l1, l2, l3] (.ref o :: S) h Q := ax_aload_n mt5 dX0_putWritten_13 rfl
theorem s5_14 (hT : gT h o = some (3, 5)) : aW d 5 14 L (.ref o :: S) h Q = (isRf (gR h o 3) = true ∧ aW d 5 17 L (gR h o 3 :: S) h Q) := ax_geta mt5 dX0_putWritten_14 (by decide) ft_9 fk_9 hT
theorem s5_17 : aW d 5 17 [l0, .int a, l2, l3] S h Q = aW d 5 18 [l0, .int a, l2, l3] (.int a :: S) h Q := ax_iload_n mt5 dX0_putWritten_17 rfl
theorem s5_18 : aW d 5 18 [.ref o, l1, l2, l3] S h Q = aW d 5 19 [.ref o, l1, l2, l3] (.ref o :: S) h Q := ax_aload_n mt5 dX0_putWritten_18 rfl
theorem s5_19 (hT : gT h o = some (3, 5)) : aW d 5 19 L (.ref o :: S) h Q = (isRf (gR h o 3) = true ∧ aW d 5 22 L (gR h o 3 :: S) h Q) := ax_geta mt5 dX0_putWritten_19 (by decide) ft_9 fk_9 hT
theorem s5_22 : aW d 5 22 [l0, l1, .int a, l3] S h Q = aW d 5 23 [l0, l1, .int a, l3] (.int a :: S) h Q := ax_iload_n mt5 dX0_putWritten_22 rfl
theorem s5_23 : aW d 5 23 L (.int a :: .ref o :: S) h Q = (inb a (aI h o) ∧ aW d 5 24 L (.int (gI h o a.toNatClampNeg) :: S) h Q) := ax_iald mt5 dX0_putWritten_23
theorem s5_24 : aW d 5 24 L (.int b :: .int a :: .ref o :: S) h Q = (inb a (aJ h o) ∧ aW d 5 25 L S (pI h o a.toNatClampNeg b) Q) := ax_iast mt5 dX0_putWritten_24
theorem s5_25 : aW d 5 25 [.ref o, l1, l2, l3] S h Q = aW d 5 26 [.ref o, l1, l2, l3] (.ref o :: S) h Q := ax_aload_n mt5 dX0_putWritten_25 rfl
theorem s5_26 (hT : gT h o = some (3, 5)) : aW d 5 26 L (.ref o :: S) h Q = (isRf (gR h o 3) = true ∧ aW d 5 29 L (gR h o 3 :: S) h Q) := ax_geta mt5 dX0_putWritten_26 (by decide) ft_9 fk_9 hT
theorem s5_29 : aW d 5 29 [l0, l1, .int a, l3] S h Q = aW d 5 30 [l0, l1, .int a, l3] (.int a :: S) h Q := ax_iload_n mt5 dX0_putWritten_29 rfl
theorem s5_30 : aW d 5 30 L S h Q = aW d 5 31 L (.int ((-1)) :: S) h Q := ax_iconst mt5 dX0_putWritten_30 ic_m1
theorem s5_31 : aW d 5 31 L (.int b :: .int a :: .ref o :: S) h Q = (inb a (aJ h o) ∧ aW d 5 32 L S (pI h o a.toNatClampNeg b) Q) := ax_iast mt5 dX0_putWritten_31
theorem s5_32 : aW d 5 32 L S h Q = aW d 5 47 L S h Q := ax_goto mt5 dX0_putWritten_32 (by decide)
theorem s5_47 : aW d 5 47 L [] h Q = Q none h := ax_retv mt5 dX0_putWritten_47 rfl
theorem s5_35 : aW d 5 35 [.ref o, l1, l2, l3] S h Q = aW d 5 36 [.ref o, l1, l2, l3] (.ref o :: S) h Q := ax_aload_n mt5 dX0_putWritten_35 rfl
theorem s5_36 (hT : gT h o = some (3, 5)) : aW d 5 36 L (.ref o :: S) h Q = (isRf (gR h o 3) = true ∧ aW d 5 39 L (gR h o 3 :: S) h Q) := ax_geta mt5 dX0_putWritten_36 (by decide) ft_9 fk_9 hT
theorem s5_39 : aW d 5 39 [l0, .int a, l2, l3] S h Q = aW d 5 40 [l0, .int a, l2, l3] (.int a :: S) h Q := ax_iload_n mt5 dX0_putWritten_39 rfl
theorem s5_40 : aW d 5 40 [.ref o, l1, l2, l3] S h Q = aW d 5 41 [.ref o, l1, l2, l3] (.ref o :: S) h Q := ax_aload_n mt5 dX0_putWritten_40 rfl
theorem s5_41 : aW d 5 41 [l0, .int a, l2, l3] S h Q = aW d 5 42 [l0, .int a, l2, l3] (.int a :: S) h Q := ax_iload_n mt5 dX0_putWritten_41 rfl
theorem s5_42 : aW d 5 42 [l0, l1, l2, .ref o] S h Q = aW d 5 43 [l0, l1, l2, .ref o] (.ref o :: S) h Q := ax_aload_n mt5 dX0_putWritten_42 rfl
theorem s5_43 (hT : gT h o = some (3, 5)) : aW (d + 1) 5 43 L (.ref p1 :: .int x0 :: .ref o :: [.int y0, .ref q1]) h Q = aM d 6 (.ref o :: [.int x0, .ref p1]) h (fun v h1 => aW (d + 1) 5 46 L (ab_ps v [.int y0, .ref q1]) h1 Q) := ax_invv mt5 dX0_putWritten_43 (by decide) ct_91 (.inl rfl) mt6 ⟨⟨Nat.le_of_ble_eq_true rfl, Nat.le_of_ble_eq_true rfl, Nat.le_of_ble_eq_true rfl⟩, rfl, rfl, rfl⟩ hT
theorem s5_46 : aW d 5 46 L (.int b :: .int a :: .ref o :: S) h Q = (inb a (aJ h o) ∧ aW d 5 47 L S (pI h o a.toNatClampNeg b) Q) := ax_iast mt5 dX0_putWritten_46
-- method 6: BufferRoom$Floor.placeFor(I[I)I
theorem dX0_placeFor_0 : decode cX0_placeFor 0 = .ok (.iconst 0, 1) := by decide +kernel
theorem dX0_placeFor_1 : decode cX0_placeFor 1 = .ok (.istore_n 3, 1) := by decide +kernel
theorem dX0_placeFor_2 : decode cX0_placeFor 2 = .ok (.iconst (-1), 1) := by decide +kernel
theorem dX0_placeFor_3 : decode cX0_placeFor 3 = .ok (.istore 4, 2) := by decide +kernel
theorem dX0_placeFor_5 : decode cX0_placeFor 5 = .ok (.iconst 0, 1) := by decide +kernel
theorem dX0_placeFor_6 : decode cX0_placeFor 6 = .ok (.istore 5, 2) := by decide +kernel
theorem dX0_placeFor_8 : decode cX0_placeFor 8 = .ok (.iconst 0, 1) := by decide +kernel
theorem dX0_placeFor_9 : decode cX0_placeFor 9 = .ok (.istore 6, 2) := by decide +kernel
theorem dX0_placeFor_11 : decode cX0_placeFor 11 = .ok (.iload 6, 2) := by decide +kernel
theorem dX0_placeFor_13 : decode cX0_placeFor 13 = .ok (.bipush 12, 2) := by decide +kernel
theorem dX0_placeFor_15 : decode cX0_placeFor 15 = .ok (.if_icmp .ge 85, 3) := by decide +kernel
theorem dX0_placeFor_18 : decode cX0_placeFor 18 = .ok (.aload_n 0, 1) := by decide +kernel
theorem dX0_placeFor_19 : decode cX0_placeFor 19 = .ok (.iload_n 3, 1) := by decide +kernel
theorem dX0_placeFor_20 : decode cX0_placeFor 20 = .ok (.aload_n 2, 1) := by decide +kernel
theorem dX0_placeFor_21 : decode cX0_placeFor 21 = .ok (.invokevirtual 95, 3) := by decide +kernel
theorem dX0_placeFor_24 : decode cX0_placeFor 24 = .ok (.istore 7, 2) := by decide +kernel
theorem dX0_placeFor_26 : decode cX0_placeFor 26 = .ok (.iload 7, 2) := by decide +kernel
theorem dX0_placeFor_28 : decode cX0_placeFor 28 = .ok (.ifCond .ge 6, 3) := by decide +kernel
theorem dX0_placeFor_31 : decode cX0_placeFor 31 = .ok (.goto 69, 3) := by decide +kernel
theorem dX0_placeFor_34 : decode cX0_placeFor 34 = .ok (.aload_n 0, 1) := by decide +kernel
theorem dX0_placeFor_35 : decode cX0_placeFor 35 = .ok (.getfield 9, 3) := by decide +kernel
theorem dX0_placeFor_38 : decode cX0_placeFor 38 = .ok (.iload 7, 2) := by decide +kernel
theorem dX0_placeFor_40 : decode cX0_placeFor 40 = .ok (.iaload, 1) := by decide +kernel
theorem dX0_placeFor_41 : decode cX0_placeFor 41 = .ok (.iload_n 3, 1) := by decide +kernel
theorem dX0_placeFor_42 : decode cX0_placeFor 42 = .ok (.isub, 1) := by decide +kernel
theorem dX0_placeFor_43 : decode cX0_placeFor 43 = .ok (.istore 8, 2) := by decide +kernel
theorem dX0_placeFor_45 : decode cX0_placeFor 45 = .ok (.iload 8, 2) := by decide +kernel
theorem dX0_placeFor_47 : decode cX0_placeFor 47 = .ok (.ifCond .le 34, 3) := by decide +kernel
theorem dX0_placeFor_50 : decode cX0_placeFor 50 = .ok (.iload 8, 2) := by decide +kernel
theorem dX0_placeFor_52 : decode cX0_placeFor 52 = .ok (.aload_n 2, 1) := by decide +kernel
theorem dX0_placeFor_53 : decode cX0_placeFor 53 = .ok (.iload_n 1, 1) := by decide +kernel
theorem dX0_placeFor_54 : decode cX0_placeFor 54 = .ok (.iaload, 1) := by decide +kernel
theorem dX0_placeFor_55 : decode cX0_placeFor 55 = .ok (.if_icmp .lt 26, 3) := by decide +kernel
theorem dX0_placeFor_58 : decode cX0_placeFor 58 = .ok (.iload 4, 2) := by decide +kernel
theorem dX0_placeFor_60 : decode cX0_placeFor 60 = .ok (.ifCond .lt 14, 3) := by decide +kernel
theorem dX0_placeFor_63 : decode cX0_placeFor 63 = .ok (.aload_n 0, 1) := by decide +kernel
theorem dX0_placeFor_64 : decode cX0_placeFor 64 = .ok (.iload 8, 2) := by decide +kernel
theorem dX0_placeFor_66 : decode cX0_placeFor 66 = .ok (.iload 5, 2) := by decide +kernel
theorem dX0_placeFor_68 : decode cX0_placeFor 68 = .ok (.invokevirtual 98, 3) := by decide +kernel
theorem dX0_placeFor_71 : decode cX0_placeFor 71 = .ok (.ifCond .eq 10, 3) := by decide +kernel
theorem dX0_placeFor_74 : decode cX0_placeFor 74 = .ok (.iload_n 3, 1) := by decide +kernel
theorem dX0_placeFor_75 : decode cX0_placeFor 75 = .ok (.istore 4, 2) := by decide +kernel
theorem dX0_placeFor_77 : decode cX0_placeFor 77 = .ok (.iload 8, 2) := by decide +kernel
theorem dX0_placeFor_79 : decode cX0_placeFor 79 = .ok (.istore 5, 2) := by decide +kernel
theorem dX0_placeFor_81 : decode cX0_placeFor 81 = .ok (.aload_n 0, 1) := by decide +kernel
theorem dX0_placeFor_82 : decode cX0_placeFor 82 = .ok (.getfield 9, 3) := by decide +kernel
theorem dX0_placeFor_85 : decode cX0_placeFor 85 = .ok (.iload 7, 2) := by decide +kernel
theorem dX0_placeFor_87 : decode cX0_placeFor 87 = .ok (.iaload, 1) := by decide +kernel
theorem dX0_placeFor_88 : decode cX0_placeFor 88 = .ok (.aload_n 2, 1) := by decide +kernel
theorem dX0_placeFor_89 : decode cX0_placeFor 89 = .ok (.iload 7, 2) := by decide +kernel
theorem dX0_placeFor_91 : decode cX0_placeFor 91 = .ok (.iaload, 1) := by decide +kernel
theorem dX0_placeFor_92 : decode cX0_placeFor 92 = .ok (.iadd, 1) := by decide +kernel
theorem dX0_placeFor_93 : decode cX0_placeFor 93 = .ok (.istore_n 3, 1) := by decide +kernel
theorem dX0_placeFor_94 : decode cX0_placeFor 94 = .ok (.iinc 6 1, 3) := by decide +kernel
theorem dX0_placeFor_97 : decode cX0_placeFor 97 = .ok (.goto (-86), 3) := by decide +kernel
theorem dX0_placeFor_100 : decode cX0_placeFor 100 = .ok (.iload 4, 2) := by decide +kernel
theorem dX0_placeFor_102 : decode cX0_placeFor 102 = .ok (.ifCond .ge 7, 3) := by decide +kernel
theorem dX0_placeFor_105 : decode cX0_placeFor 105 = .ok (.iload_n 3, 1) := by decide +kernel
theorem dX0_placeFor_106 : decode cX0_placeFor 106 = .ok (.goto 5, 3) := by decide +kernel
theorem dX0_placeFor_109 : decode cX0_placeFor 109 = .ok (.iload 4, 2) := by decide +kernel
theorem dX0_placeFor_111 : decode cX0_placeFor 111 = .ok (.ireturn, 1) := by decide +kernel
theorem s6_0 : aW d 6 0 L S h Q = aW d 6 1 L (.int (nI 0) :: S) h Q := ax_iconst mt6 dX0_placeFor_0 ic_0
theorem s6_1 : aW d 6 1 [l0, l1, l2, l3, l4, l5, l6, l7, l8] (.int a :: S) h Q = aW d 6 2 [l0, l1, l2, .int a, l4, l5, l6, l7, l8] S h Q := ax_istore_n mt6 dX0_placeFor_1 (Nat.le_of_ble_eq_true rfl) rfl
theorem s6_2 : aW d 6 2 L S h Q = aW d 6 3 L (.int ((-1)) :: S) h Q := ax_iconst mt6 dX0_placeFor_2 ic_m1
theorem s6_3 : aW d 6 3 [l0, l1, l2, l3, l4, l5, l6, l7, l8] (.int a :: S) h Q = aW d 6 5 [l0, l1, l2, l3, .int a, l5, l6, l7, l8] S h Q := ax_istore mt6 dX0_placeFor_3 (Nat.le_of_ble_eq_true rfl) rfl
theorem s6_5 : aW d 6 5 L S h Q = aW d 6 6 L (.int (nI 0) :: S) h Q := ax_iconst mt6 dX0_placeFor_5 ic_0
theorem s6_6 : aW d 6 6 [l0, l1, l2, l3, l4, l5, l6, l7, l8] (.int a :: S) h Q = aW d 6 8 [l0, l1, l2, l3, l4, .int a, l6, l7, l8] S h Q := ax_istore mt6 dX0_placeFor_6 (Nat.le_of_ble_eq_true rfl) rfl
theorem s6_8 : aW d 6 8 L S h Q = aW d 6 9 L (.int (nI 0) :: S) h Q := ax_iconst mt6 dX0_placeFor_8 ic_0
theorem s6_9 : aW d 6 9 [l0, l1, l2, l3, l4, l5, l6, l7, l8] (.int a :: S) h Q = aW d 6 11 [l0, l1, l2, l3, l4, l5, .int a, l7, l8] S h Q := ax_istore mt6 dX0_placeFor_9 (Nat.le_of_ble_eq_true rfl) rfl
theorem s6_11 : aW d 6 11 [l0, l1, l2, l3, l4, l5, .int a, l7, l8] S h Q = aW d 6 13 [l0, l1, l2, l3, l4, l5, .int a, l7, l8] (.int a :: S) h Q := ax_iload mt6 dX0_placeFor_11 rfl
theorem s6_13 : aW d 6 13 L S h Q = aW d 6 15 L (.int (nI 12) :: S) h Q := ax_bipush mt6 dX0_placeFor_13 bp_12
theorem s6_15 : aW d 6 15 L (.int b :: .int a :: S) h Q = (if a < b then aW d 6 18 L S h Q else aW d 6 100 L S h Q) := ax_icmp_ge mt6 dX0_placeFor_15 (by decide)
theorem s6_18 : aW d 6 18 [.ref o, l1, l2, l3, l4, l5, l6, l7, l8] S h Q = aW d 6 19 [.ref o, l1, l2, l3, l4, l5, l6, l7, l8] (.ref o :: S) h Q := ax_aload_n mt6 dX0_placeFor_18 rfl
theorem s6_19 : aW d 6 19 [l0, l1, l2, .int a, l4, l5, l6, l7, l8] S h Q = aW d 6 20 [l0, l1, l2, .int a, l4, l5, l6, l7, l8] (.int a :: S) h Q := ax_iload_n mt6 dX0_placeFor_19 rfl
theorem s6_20 : aW d 6 20 [l0, l1, .ref o, l3, l4, l5, l6, l7, l8] S h Q = aW d 6 21 [l0, l1, .ref o, l3, l4, l5, l6, l7, l8] (.ref o :: S) h Q := ax_aload_n mt6 dX0_placeFor_20 rfl
theorem s6_21 (hT : gT h o = some (3, 5)) : aW (d + 1) 6 21 L (.ref p1 :: .int x0 :: .ref o :: []) h Q = aM d 8 (.ref o :: [.int x0, .ref p1]) h (fun v h1 => aW (d + 1) 6 24 L (ab_ps v []) h1 Q) := ax_invv mt6 dX0_placeFor_21 (by decide) ct_95 (.inl rfl) mt8 ⟨⟨Nat.le_of_ble_eq_true rfl, Nat.le_of_ble_eq_true rfl, Nat.le_of_ble_eq_true rfl⟩, rfl, rfl, rfl⟩ hT
theorem s6_24 : aW d 6 24 [l0, l1, l2, l3, l4, l5, l6, l7, l8] (.int a :: S) h Q = aW d 6 26 [l0, l1, l2, l3, l4, l5, l6, .int a, l8] S h Q := ax_istore mt6 dX0_placeFor_24 (Nat.le_of_ble_eq_true rfl) rfl
theorem s6_26 : aW d 6 26 [l0, l1, l2, l3, l4, l5, l6, .int a, l8] S h Q = aW d 6 28 [l0, l1, l2, l3, l4, l5, l6, .int a, l8] (.int a :: S) h Q := ax_iload mt6 dX0_placeFor_26 rfl
theorem s6_28 : aW d 6 28 L (.int a :: S) h Q = (if a < 0 then aW d 6 31 L S h Q else aW d 6 34 L S h Q) := ax_if_ge mt6 dX0_placeFor_28 (by decide)
theorem s6_31 : aW d 6 31 L S h Q = aW d 6 100 L S h Q := ax_goto mt6 dX0_placeFor_31 (by decide)
theorem s6_34 : aW d 6 34 [.ref o, l1, l2, l3, l4, l5, l6, l7, l8] S h Q = aW d 6 35 [.ref o, l1, l2, l3, l4, l5, l6, l7, l8] (.ref o :: S) h Q := ax_aload_n mt6 dX0_placeFor_34 rfl
theorem s6_35 (hT : gT h o = some (3, 5)) : aW d 6 35 L (.ref o :: S) h Q = (isRf (gR h o 3) = true ∧ aW d 6 38 L (gR h o 3 :: S) h Q) := ax_geta mt6 dX0_placeFor_35 (by decide) ft_9 fk_9 hT
theorem s6_38 : aW d 6 38 [l0, l1, l2, l3, l4, l5, l6, .int a, l8] S h Q = aW d 6 40 [l0, l1, l2, l3, l4, l5, l6, .int a, l8] (.int a :: S) h Q := ax_iload mt6 dX0_placeFor_38 rfl
theorem s6_40 : aW d 6 40 L (.int a :: .ref o :: S) h Q = (inb a (aI h o) ∧ aW d 6 41 L (.int (gI h o a.toNatClampNeg) :: S) h Q) := ax_iald mt6 dX0_placeFor_40
theorem s6_41 : aW d 6 41 [l0, l1, l2, .int a, l4, l5, l6, l7, l8] S h Q = aW d 6 42 [l0, l1, l2, .int a, l4, l5, l6, l7, l8] (.int a :: S) h Q := ax_iload_n mt6 dX0_placeFor_41 rfl
theorem s6_42 : aW d 6 42 L (.int b :: .int a :: S) h Q = aW d 6 43 L (.int (a - b) :: S) h Q := ax_isub mt6 dX0_placeFor_42
theorem s6_43 : aW d 6 43 [l0, l1, l2, l3, l4, l5, l6, l7, l8] (.int a :: S) h Q = aW d 6 45 [l0, l1, l2, l3, l4, l5, l6, l7, .int a] S h Q := ax_istore mt6 dX0_placeFor_43 (Nat.le_of_ble_eq_true rfl) rfl
theorem s6_45 : aW d 6 45 [l0, l1, l2, l3, l4, l5, l6, l7, .int a] S h Q = aW d 6 47 [l0, l1, l2, l3, l4, l5, l6, l7, .int a] (.int a :: S) h Q := ax_iload mt6 dX0_placeFor_45 rfl
theorem s6_47 : aW d 6 47 L (.int a :: S) h Q = (if 0 < a then aW d 6 50 L S h Q else aW d 6 81 L S h Q) := ax_if_le mt6 dX0_placeFor_47 (by decide)
theorem s6_50 : aW d 6 50 [l0, l1, l2, l3, l4, l5, l6, l7, .int a] S h Q = aW d 6 52 [l0, l1, l2, l3, l4, l5, l6, l7, .int a] (.int a :: S) h Q := ax_iload mt6 dX0_placeFor_50 rfl
theorem s6_52 : aW d 6 52 [l0, l1, .ref o, l3, l4, l5, l6, l7, l8] S h Q = aW d 6 53 [l0, l1, .ref o, l3, l4, l5, l6, l7, l8] (.ref o :: S) h Q := ax_aload_n mt6 dX0_placeFor_52 rfl
theorem s6_53 : aW d 6 53 [l0, .int a, l2, l3, l4, l5, l6, l7, l8] S h Q = aW d 6 54 [l0, .int a, l2, l3, l4, l5, l6, l7, l8] (.int a :: S) h Q := ax_iload_n mt6 dX0_placeFor_53 rfl
theorem s6_54 : aW d 6 54 L (.int a :: .ref o :: S) h Q = (inb a (aI h o) ∧ aW d 6 55 L (.int (gI h o a.toNatClampNeg) :: S) h Q) := ax_iald mt6 dX0_placeFor_54
theorem s6_55 : aW d 6 55 L (.int b :: .int a :: S) h Q = (if a < b then aW d 6 81 L S h Q else aW d 6 58 L S h Q) := ax_icmp_lt mt6 dX0_placeFor_55 (by decide)
theorem s6_58 : aW d 6 58 [l0, l1, l2, l3, .int a, l5, l6, l7, l8] S h Q = aW d 6 60 [l0, l1, l2, l3, .int a, l5, l6, l7, l8] (.int a :: S) h Q := ax_iload mt6 dX0_placeFor_58 rfl
theorem s6_60 : aW d 6 60 L (.int a :: S) h Q = (if a < 0 then aW d 6 74 L S h Q else aW d 6 63 L S h Q) := ax_if_lt mt6 dX0_placeFor_60 (by decide)
theorem s6_63 : aW d 6 63 [.ref o, l1, l2, l3, l4, l5, l6, l7, l8] S h Q = aW d 6 64 [.ref o, l1, l2, l3, l4, l5, l6, l7, l8] (.ref o :: S) h Q := ax_aload_n mt6 dX0_placeFor_63 rfl
theorem s6_64 : aW d 6 64 [l0, l1, l2, l3, l4, l5, l6, l7, .int a] S h Q = aW d 6 66 [l0, l1, l2, l3, l4, l5, l6, l7, .int a] (.int a :: S) h Q := ax_iload mt6 dX0_placeFor_64 rfl
theorem s6_66 : aW d 6 66 [l0, l1, l2, l3, l4, .int a, l6, l7, l8] S h Q = aW d 6 68 [l0, l1, l2, l3, l4, .int a, l6, l7, l8] (.int a :: S) h Q := ax_iload mt6 dX0_placeFor_66 rfl
theorem s6_68 (hT : gT h o = some (3, 5)) : aW (d + 1) 6 68 L (.int x1 :: .int x0 :: .ref o :: []) h Q = aM d 7 (.ref o :: [.int x0, .int x1]) h (fun v h1 => aW (d + 1) 6 71 L (ab_ps v []) h1 Q) := ax_invv mt6 dX0_placeFor_68 (by decide) ct_98 (.inl rfl) mt7 ⟨⟨Nat.le_of_ble_eq_true rfl, Nat.le_of_ble_eq_true rfl, Nat.le_of_ble_eq_true rfl⟩, rfl, rfl, rfl⟩ hT
theorem s6_71 : aW d 6 71 L (.int a :: S) h Q = (if a = 0 then aW d 6 81 L S h Q else aW d 6 74 L S h Q) := ax_if_eq mt6 dX0_placeFor_71 (by decide)
theorem s6_74 : aW d 6 74 [l0, l1, l2, .int a, l4, l5, l6, l7, l8] S h Q = aW d 6 75 [l0, l1, l2, .int a, l4, l5, l6, l7, l8] (.int a :: S) h Q := ax_iload_n mt6 dX0_placeFor_74 rfl
theorem s6_75 : aW d 6 75 [l0, l1, l2, l3, l4, l5, l6, l7, l8] (.int a :: S) h Q = aW d 6 77 [l0, l1, l2, l3, .int a, l5, l6, l7, l8] S h Q := ax_istore mt6 dX0_placeFor_75 (Nat.le_of_ble_eq_true rfl) rfl
theorem s6_77 : aW d 6 77 [l0, l1, l2, l3, l4, l5, l6, l7, .int a] S h Q = aW d 6 79 [l0, l1, l2, l3, l4, l5, l6, l7, .int a] (.int a :: S) h Q := ax_iload mt6 dX0_placeFor_77 rfl
theorem s6_79 : aW d 6 79 [l0, l1, l2, l3, l4, l5, l6, l7, l8] (.int a :: S) h Q = aW d 6 81 [l0, l1, l2, l3, l4, .int a, l6, l7, l8] S h Q := ax_istore mt6 dX0_placeFor_79 (Nat.le_of_ble_eq_true rfl) rfl
theorem s6_81 : aW d 6 81 [.ref o, l1, l2, l3, l4, l5, l6, l7, l8] S h Q = aW d 6 82 [.ref o, l1, l2, l3, l4, l5, l6, l7, l8] (.ref o :: S) h Q := ax_aload_n mt6 dX0_placeFor_81 rfl
theorem s6_82 (hT : gT h o = some (3, 5)) : aW d 6 82 L (.ref o :: S) h Q = (isRf (gR h o 3) = true ∧ aW d 6 85 L (gR h o 3 :: S) h Q) := ax_geta mt6 dX0_placeFor_82 (by decide) ft_9 fk_9 hT
theorem s6_85 : aW d 6 85 [l0, l1, l2, l3, l4, l5, l6, .int a, l8] S h Q = aW d 6 87 [l0, l1, l2, l3, l4, l5, l6, .int a, l8] (.int a :: S) h Q := ax_iload mt6 dX0_placeFor_85 rfl
theorem s6_87 : aW d 6 87 L (.int a :: .ref o :: S) h Q = (inb a (aI h o) ∧ aW d 6 88 L (.int (gI h o a.toNatClampNeg) :: S) h Q) := ax_iald mt6 dX0_placeFor_87
theorem s6_88 : aW d 6 88 [l0, l1, .ref o, l3, l4, l5, l6, l7, l8] S h Q = aW d 6 89 [l0, l1, .ref o, l3, l4, l5, l6, l7, l8] (.ref o :: S) h Q := ax_aload_n mt6 dX0_placeFor_88 rfl
theorem s6_89 : aW d 6 89 [l0, l1, l2, l3, l4, l5, l6, .int a, l8] S h Q = aW d 6 91 [l0, l1, l2, l3, l4, l5, l6, .int a, l8] (.int a :: S) h Q := ax_iload mt6 dX0_placeFor_89 rfl
theorem s6_91 : aW d 6 91 L (.int a :: .ref o :: S) h Q = (inb a (aI h o) ∧ aW d 6 92 L (.int (gI h o a.toNatClampNeg) :: S) h Q) := ax_iald mt6 dX0_placeFor_91
theorem s6_92 : aW d 6 92 L (.int b :: .int a :: S) h Q = aW d 6 93 L (.int (a + b) :: S) h Q := ax_iadd mt6 dX0_placeFor_92
theorem s6_93 : aW d 6 93 [l0, l1, l2, l3, l4, l5, l6, l7, l8] (.int a :: S) h Q = aW d 6 94 [l0, l1, l2, .int a, l4, l5, l6, l7, l8] S h Q := ax_istore_n mt6 dX0_placeFor_93 (Nat.le_of_ble_eq_true rfl) rfl
theorem s6_94 : aW d 6 94 [l0, l1, l2, l3, l4, l5, .int a, l7, l8] S h Q = aW d 6 97 [l0, l1, l2, l3, l4, l5, .int (a + nI 1), l7, l8] S h Q := ax_iinc mt6 dX0_placeFor_94 rfl ic_1 rfl
theorem s6_97 : aW d 6 97 L S h Q = aW d 6 11 L S h Q := ax_goto mt6 dX0_placeFor_97 (by decide)
theorem s6_100 : aW d 6 100 [l0, l1, l2, l3, .int a, l5, l6, l7, l8] S h Q = aW d 6 102 [l0, l1, l2, l3, .int a, l5, l6, l7, l8] (.int a :: S) h Q := ax_iload mt6 dX0_placeFor_100 rfl
theorem s6_102 : aW d 6 102 L (.int a :: S) h Q = (if a < 0 then aW d 6 105 L S h Q else aW d 6 109 L S h Q) := ax_if_ge mt6 dX0_placeFor_102 (by decide)
theorem s6_105 : aW d 6 105 [l0, l1, l2, .int a, l4, l5, l6, l7, l8] S h Q = aW d 6 106 [l0, l1, l2, .int a, l4, l5, l6, l7, l8] (.int a :: S) h Q := ax_iload_n mt6 dX0_placeFor_105 rfl
theorem s6_106 : aW d 6 106 L S h Q = aW d 6 111 L S h Q := ax_goto mt6 dX0_placeFor_106 (by decide)
theorem s6_111 : aW d 6 111 L [.int a] h Q = Q (some (.int a)) h := ax_reti mt6 dX0_placeFor_111 rfl
theorem s6_109 : aW d 6 109 [l0, l1, l2, l3, .int a, l5, l6, l7, l8] S h Q = aW d 6 111 [l0, l1, l2, l3, .int a, l5, l6, l7, l8] (.int a :: S) h Q := ax_iload mt6 dX0_placeFor_109 rfl
-- method 7: BufferRoom$Floor.isBetter(II)Z
theorem dX0_isBetter_0 : decode cX0_isBetter 0 = .ok (.aload_n 0, 1) := by decide +kernel
theorem dX0_isBetter_1 : decode cX0_isBetter 1 = .ok (.getfield 25, 3) := by decide +kernel
theorem dX0_isBetter_4 : decode cX0_isBetter 4 = .ok (.lookupswitch 50 #[(1, 28), (2, 39)], 28) := by decide +kernel
theorem dX0_isBetter_32 : decode cX0_isBetter 32 = .ok (.iload_n 1, 1) := by decide +kernel
theorem dX0_isBetter_33 : decode cX0_isBetter 33 = .ok (.iload_n 2, 1) := by decide +kernel
theorem dX0_isBetter_34 : decode cX0_isBetter 34 = .ok (.if_icmp .ge 7, 3) := by decide +kernel
theorem dX0_isBetter_37 : decode cX0_isBetter 37 = .ok (.iconst 1, 1) := by decide +kernel
theorem dX0_isBetter_38 : decode cX0_isBetter 38 = .ok (.goto 4, 3) := by decide +kernel
theorem dX0_isBetter_41 : decode cX0_isBetter 41 = .ok (.iconst 0, 1) := by decide +kernel
theorem dX0_isBetter_42 : decode cX0_isBetter 42 = .ok (.ireturn, 1) := by decide +kernel
theorem dX0_isBetter_43 : decode cX0_isBetter 43 = .ok (.iload_n 1, 1) := by decide +kernel
theorem dX0_isBetter_44 : decode cX0_isBetter 44 = .ok (.iload_n 2, 1) := by decide +kernel
theorem dX0_isBetter_45 : decode cX0_isBetter 45 = .ok (.if_icmp .le 7, 3) := by decide +kernel
theorem dX0_isBetter_48 : decode cX0_isBetter 48 = .ok (.iconst 1, 1) := by decide +kernel
theorem dX0_isBetter_49 : decode cX0_isBetter 49 = .ok (.goto 4, 3) := by decide +kernel
theorem dX0_isBetter_52 : decode cX0_isBetter 52 = .ok (.iconst 0, 1) := by decide +kernel
theorem dX0_isBetter_53 : decode cX0_isBetter 53 = .ok (.ireturn, 1) := by decide +kernel
theorem dX0_isBetter_54 : decode cX0_isBetter 54 = .ok (.iconst 0, 1) := by decide +kernel
theorem dX0_isBetter_55 : decode cX0_isBetter 55 = .ok (.ireturn, 1) := by decide +kernel
theorem s7_0 : aW d 7 0 [.ref o, l1, l2] S h Q = aW d 7 1 [.ref o, l1, l2] (.ref o :: S) h Q := ax_aload_n mt7 dX0_isBetter_0 rfl
theorem s7_1 (hT : gT h o = some (3, 5)) : aW d 7 1 L (.ref o :: S) h Q = aW d 7 4 L (.int (gI h o 2) :: S) h Q := ax_geti mt7 dX0_isBetter_1 (by decide) ft_25 fk_25 hT
theorem s7_4 : aW d 7 4 L (.int a :: S) h Q = (if a = nI 1 then aW d 7 32 L S h Q else (if a = nI 2 then aW d 7 43 L S h Q else aW d 7 54 L S h Q)) := by
  by_cases e0 : a = nI 1
  · rw [if_pos e0]
    subst e0
    exact ax_look (off := 28) mt7 dX0_isBetter_4 (by decide +kernel) (by decide +kernel) (by decide)
  rw [if_neg e0]
  by_cases e1 : a = nI 2
  · rw [if_pos e1]
    subst e1
    exact ax_look (off := 39) mt7 dX0_isBetter_4 (by decide +kernel) (by decide +kernel) (by decide)
  rw [if_neg e1]
  refine ax_look (off := 50) mt7 dX0_isBetter_4 (by decide +kernel) ?_ (by decide)
  show Op.lookupswitch.offset [(1, 28), (2, 39)] 50 a.toInt = 50
  rw [lv_osw e0 (show (nI 1 : Int32).toInt = 1 by decide +kernel), lv_osw e1 (show (nI 2 : Int32).toInt = 2 by decide +kernel)]
  rfl
theorem s7_43 : aW d 7 43 [l0, .int a, l2] S h Q = aW d 7 44 [l0, .int a, l2] (.int a :: S) h Q := ax_iload_n mt7 dX0_isBetter_43 rfl
theorem s7_44 : aW d 7 44 [l0, l1, .int a] S h Q = aW d 7 45 [l0, l1, .int a] (.int a :: S) h Q := ax_iload_n mt7 dX0_isBetter_44 rfl
theorem s7_45 : aW d 7 45 L (.int b :: .int a :: S) h Q = (if b < a then aW d 7 48 L S h Q else aW d 7 52 L S h Q) := ax_icmp_le mt7 dX0_isBetter_45 (by decide)
theorem s7_48 : aW d 7 48 L S h Q = aW d 7 49 L (.int (nI 1) :: S) h Q := ax_iconst mt7 dX0_isBetter_48 ic_1
theorem s7_49 : aW d 7 49 L S h Q = aW d 7 53 L S h Q := ax_goto mt7 dX0_isBetter_49 (by decide)
theorem s7_53 : aW d 7 53 L [.int a] h Q = (b01 a ∧ Q (some (.int a)) h) := ax_retz mt7 dX0_isBetter_53 rfl
theorem s7_52 : aW d 7 52 L S h Q = aW d 7 53 L (.int (nI 0) :: S) h Q := ax_iconst mt7 dX0_isBetter_52 ic_0
theorem s7_32 : aW d 7 32 [l0, .int a, l2] S h Q = aW d 7 33 [l0, .int a, l2] (.int a :: S) h Q := ax_iload_n mt7 dX0_isBetter_32 rfl
theorem s7_33 : aW d 7 33 [l0, l1, .int a] S h Q = aW d 7 34 [l0, l1, .int a] (.int a :: S) h Q := ax_iload_n mt7 dX0_isBetter_33 rfl
theorem s7_34 : aW d 7 34 L (.int b :: .int a :: S) h Q = (if a < b then aW d 7 37 L S h Q else aW d 7 41 L S h Q) := ax_icmp_ge mt7 dX0_isBetter_34 (by decide)
theorem s7_37 : aW d 7 37 L S h Q = aW d 7 38 L (.int (nI 1) :: S) h Q := ax_iconst mt7 dX0_isBetter_37 ic_1
theorem s7_38 : aW d 7 38 L S h Q = aW d 7 42 L S h Q := ax_goto mt7 dX0_isBetter_38 (by decide)
theorem s7_42 : aW d 7 42 L [.int a] h Q = (b01 a ∧ Q (some (.int a)) h) := ax_retz mt7 dX0_isBetter_42 rfl
theorem s7_41 : aW d 7 41 L S h Q = aW d 7 42 L (.int (nI 0) :: S) h Q := ax_iconst mt7 dX0_isBetter_41 ic_0
theorem s7_54 : aW d 7 54 L S h Q = aW d 7 55 L (.int (nI 0) :: S) h Q := ax_iconst mt7 dX0_isBetter_54 ic_0
theorem s7_55 : aW d 7 55 L [.int a] h Q = (b01 a ∧ Q (some (.int a)) h) := ax_retz mt7 dX0_isBetter_55 rfl
-- method 8: BufferRoom$Floor.lowestFrom(I[I)I
theorem dX0_lowestFrom_0 : decode cX0_lowestFrom 0 = .ok (.iconst (-1), 1) := by decide +kernel
theorem dX0_lowestFrom_1 : decode cX0_lowestFrom 1 = .ok (.istore_n 3, 1) := by decide +kernel
theorem dX0_lowestFrom_2 : decode cX0_lowestFrom 2 = .ok (.iconst 0, 1) := by decide +kernel
theorem dX0_lowestFrom_3 : decode cX0_lowestFrom 3 = .ok (.istore 4, 2) := by decide +kernel
theorem dX0_lowestFrom_5 : decode cX0_lowestFrom 5 = .ok (.iload 4, 2) := by decide +kernel
theorem dX0_lowestFrom_7 : decode cX0_lowestFrom 7 = .ok (.bipush 12, 2) := by decide +kernel
theorem dX0_lowestFrom_9 : decode cX0_lowestFrom 9 = .ok (.if_icmp .ge 50, 3) := by decide +kernel
theorem dX0_lowestFrom_12 : decode cX0_lowestFrom 12 = .ok (.aload_n 0, 1) := by decide +kernel
theorem dX0_lowestFrom_13 : decode cX0_lowestFrom 13 = .ok (.getfield 9, 3) := by decide +kernel
theorem dX0_lowestFrom_16 : decode cX0_lowestFrom 16 = .ok (.iload 4, 2) := by decide +kernel
theorem dX0_lowestFrom_18 : decode cX0_lowestFrom 18 = .ok (.iaload, 1) := by decide +kernel
theorem dX0_lowestFrom_19 : decode cX0_lowestFrom 19 = .ok (.iload_n 1, 1) := by decide +kernel
theorem dX0_lowestFrom_20 : decode cX0_lowestFrom 20 = .ok (.if_icmp .lt 33, 3) := by decide +kernel
theorem dX0_lowestFrom_23 : decode cX0_lowestFrom 23 = .ok (.aload_n 2, 1) := by decide +kernel
theorem dX0_lowestFrom_24 : decode cX0_lowestFrom 24 = .ok (.iload 4, 2) := by decide +kernel
theorem dX0_lowestFrom_26 : decode cX0_lowestFrom 26 = .ok (.iaload, 1) := by decide +kernel
theorem dX0_lowestFrom_27 : decode cX0_lowestFrom 27 = .ok (.ifCond .le 26, 3) := by decide +kernel
theorem dX0_lowestFrom_30 : decode cX0_lowestFrom 30 = .ok (.iload_n 3, 1) := by decide +kernel
theorem dX0_lowestFrom_31 : decode cX0_lowestFrom 31 = .ok (.ifCond .lt 19, 3) := by decide +kernel
theorem dX0_lowestFrom_34 : decode cX0_lowestFrom 34 = .ok (.aload_n 0, 1) := by decide +kernel
theorem dX0_lowestFrom_35 : decode cX0_lowestFrom 35 = .ok (.getfield 9, 3) := by decide +kernel
theorem dX0_lowestFrom_38 : decode cX0_lowestFrom 38 = .ok (.iload 4, 2) := by decide +kernel
theorem dX0_lowestFrom_40 : decode cX0_lowestFrom 40 = .ok (.iaload, 1) := by decide +kernel
theorem dX0_lowestFrom_41 : decode cX0_lowestFrom 41 = .ok (.aload_n 0, 1) := by decide +kernel
theorem dX0_lowestFrom_42 : decode cX0_lowestFrom 42 = .ok (.getfield 9, 3) := by decide +kernel
theorem dX0_lowestFrom_45 : decode cX0_lowestFrom 45 = .ok (.iload_n 3, 1) := by decide +kernel
theorem dX0_lowestFrom_46 : decode cX0_lowestFrom 46 = .ok (.iaload, 1) := by decide +kernel
theorem dX0_lowestFrom_47 : decode cX0_lowestFrom 47 = .ok (.if_icmp .ge 6, 3) := by decide +kernel
theorem dX0_lowestFrom_50 : decode cX0_lowestFrom 50 = .ok (.iload 4, 2) := by decide +kernel
theorem dX0_lowestFrom_52 : decode cX0_lowestFrom 52 = .ok (.istore_n 3, 1) := by decide +kernel
theorem dX0_lowestFrom_53 : decode cX0_lowestFrom 53 = .ok (.iinc 4 1, 3) := by decide +kernel
theorem dX0_lowestFrom_56 : decode cX0_lowestFrom 56 = .ok (.goto (-51), 3) := by decide +kernel
theorem dX0_lowestFrom_59 : decode cX0_lowestFrom 59 = .ok (.iload_n 3, 1) := by decide +kernel
theorem dX0_lowestFrom_60 : decode cX0_lowestFrom 60 = .ok (.ireturn, 1) := by decide +kernel
theorem s8_0 : aW d 8 0 L S h Q = aW d 8 1 L (.int ((-1)) :: S) h Q := ax_iconst mt8 dX0_lowestFrom_0 ic_m1
theorem s8_1 : aW d 8 1 [l0, l1, l2, l3, l4] (.int a :: S) h Q = aW d 8 2 [l0, l1, l2, .int a, l4] S h Q := ax_istore_n mt8 dX0_lowestFrom_1 (Nat.le_of_ble_eq_true rfl) rfl
theorem s8_2 : aW d 8 2 L S h Q = aW d 8 3 L (.int (nI 0) :: S) h Q := ax_iconst mt8 dX0_lowestFrom_2 ic_0
theorem s8_3 : aW d 8 3 [l0, l1, l2, l3, l4] (.int a :: S) h Q = aW d 8 5 [l0, l1, l2, l3, .int a] S h Q := ax_istore mt8 dX0_lowestFrom_3 (Nat.le_of_ble_eq_true rfl) rfl
theorem s8_5 : aW d 8 5 [l0, l1, l2, l3, .int a] S h Q = aW d 8 7 [l0, l1, l2, l3, .int a] (.int a :: S) h Q := ax_iload mt8 dX0_lowestFrom_5 rfl
theorem s8_7 : aW d 8 7 L S h Q = aW d 8 9 L (.int (nI 12) :: S) h Q := ax_bipush mt8 dX0_lowestFrom_7 bp_12
theorem s8_9 : aW d 8 9 L (.int b :: .int a :: S) h Q = (if a < b then aW d 8 12 L S h Q else aW d 8 59 L S h Q) := ax_icmp_ge mt8 dX0_lowestFrom_9 (by decide)
theorem s8_12 : aW d 8 12 [.ref o, l1, l2, l3, l4] S h Q = aW d 8 13 [.ref o, l1, l2, l3, l4] (.ref o :: S) h Q := ax_aload_n mt8 dX0_lowestFrom_12 rfl
theorem s8_13 (hT : gT h o = some (3, 5)) : aW d 8 13 L (.ref o :: S) h Q = (isRf (gR h o 3) = true ∧ aW d 8 16 L (gR h o 3 :: S) h Q) := ax_geta mt8 dX0_lowestFrom_13 (by decide) ft_9 fk_9 hT
theorem s8_16 : aW d 8 16 [l0, l1, l2, l3, .int a] S h Q = aW d 8 18 [l0, l1, l2, l3, .int a] (.int a :: S) h Q := ax_iload mt8 dX0_lowestFrom_16 rfl
theorem s8_18 : aW d 8 18 L (.int a :: .ref o :: S) h Q = (inb a (aI h o) ∧ aW d 8 19 L (.int (gI h o a.toNatClampNeg) :: S) h Q) := ax_iald mt8 dX0_lowestFrom_18
theorem s8_19 : aW d 8 19 [l0, .int a, l2, l3, l4] S h Q = aW d 8 20 [l0, .int a, l2, l3, l4] (.int a :: S) h Q := ax_iload_n mt8 dX0_lowestFrom_19 rfl
theorem s8_20 : aW d 8 20 L (.int b :: .int a :: S) h Q = (if a < b then aW d 8 53 L S h Q else aW d 8 23 L S h Q) := ax_icmp_lt mt8 dX0_lowestFrom_20 (by decide)
theorem s8_23 : aW d 8 23 [l0, l1, .ref o, l3, l4] S h Q = aW d 8 24 [l0, l1, .ref o, l3, l4] (.ref o :: S) h Q := ax_aload_n mt8 dX0_lowestFrom_23 rfl
theorem s8_24 : aW d 8 24 [l0, l1, l2, l3, .int a] S h Q = aW d 8 26 [l0, l1, l2, l3, .int a] (.int a :: S) h Q := ax_iload mt8 dX0_lowestFrom_24 rfl
theorem s8_26 : aW d 8 26 L (.int a :: .ref o :: S) h Q = (inb a (aI h o) ∧ aW d 8 27 L (.int (gI h o a.toNatClampNeg) :: S) h Q) := ax_iald mt8 dX0_lowestFrom_26
theorem s8_27 : aW d 8 27 L (.int a :: S) h Q = (if 0 < a then aW d 8 30 L S h Q else aW d 8 53 L S h Q) := ax_if_le mt8 dX0_lowestFrom_27 (by decide)
theorem s8_30 : aW d 8 30 [l0, l1, l2, .int a, l4] S h Q = aW d 8 31 [l0, l1, l2, .int a, l4] (.int a :: S) h Q := ax_iload_n mt8 dX0_lowestFrom_30 rfl
theorem s8_31 : aW d 8 31 L (.int a :: S) h Q = (if a < 0 then aW d 8 50 L S h Q else aW d 8 34 L S h Q) := ax_if_lt mt8 dX0_lowestFrom_31 (by decide)
theorem s8_34 : aW d 8 34 [.ref o, l1, l2, l3, l4] S h Q = aW d 8 35 [.ref o, l1, l2, l3, l4] (.ref o :: S) h Q := ax_aload_n mt8 dX0_lowestFrom_34 rfl
theorem s8_35 (hT : gT h o = some (3, 5)) : aW d 8 35 L (.ref o :: S) h Q = (isRf (gR h o 3) = true ∧ aW d 8 38 L (gR h o 3 :: S) h Q) := ax_geta mt8 dX0_lowestFrom_35 (by decide) ft_9 fk_9 hT
theorem s8_38 : aW d 8 38 [l0, l1, l2, l3, .int a] S h Q = aW d 8 40 [l0, l1, l2, l3, .int a] (.int a :: S) h Q := ax_iload mt8 dX0_lowestFrom_38 rfl
theorem s8_40 : aW d 8 40 L (.int a :: .ref o :: S) h Q = (inb a (aI h o) ∧ aW d 8 41 L (.int (gI h o a.toNatClampNeg) :: S) h Q) := ax_iald mt8 dX0_lowestFrom_40
theorem s8_41 : aW d 8 41 [.ref o, l1, l2, l3, l4] S h Q = aW d 8 42 [.ref o, l1, l2, l3, l4] (.ref o :: S) h Q := ax_aload_n mt8 dX0_lowestFrom_41 rfl
theorem s8_42 (hT : gT h o = some (3, 5)) : aW d 8 42 L (.ref o :: S) h Q = (isRf (gR h o 3) = true ∧ aW d 8 45 L (gR h o 3 :: S) h Q) := ax_geta mt8 dX0_lowestFrom_42 (by decide) ft_9 fk_9 hT
theorem s8_45 : aW d 8 45 [l0, l1, l2, .int a, l4] S h Q = aW d 8 46 [l0, l1, l2, .int a, l4] (.int a :: S) h Q := ax_iload_n mt8 dX0_lowestFrom_45 rfl
theorem s8_46 : aW d 8 46 L (.int a :: .ref o :: S) h Q = (inb a (aI h o) ∧ aW d 8 47 L (.int (gI h o a.toNatClampNeg) :: S) h Q) := ax_iald mt8 dX0_lowestFrom_46
theorem s8_47 : aW d 8 47 L (.int b :: .int a :: S) h Q = (if a < b then aW d 8 50 L S h Q else aW d 8 53 L S h Q) := ax_icmp_ge mt8 dX0_lowestFrom_47 (by decide)
theorem s8_50 : aW d 8 50 [l0, l1, l2, l3, .int a] S h Q = aW d 8 52 [l0, l1, l2, l3, .int a] (.int a :: S) h Q := ax_iload mt8 dX0_lowestFrom_50 rfl
theorem s8_52 : aW d 8 52 [l0, l1, l2, l3, l4] (.int a :: S) h Q = aW d 8 53 [l0, l1, l2, .int a, l4] S h Q := ax_istore_n mt8 dX0_lowestFrom_52 (Nat.le_of_ble_eq_true rfl) rfl
theorem s8_53 : aW d 8 53 [l0, l1, l2, l3, .int a] S h Q = aW d 8 56 [l0, l1, l2, l3, .int (a + nI 1)] S h Q := ax_iinc mt8 dX0_lowestFrom_53 rfl ic_1 rfl
theorem s8_56 : aW d 8 56 L S h Q = aW d 8 5 L S h Q := ax_goto mt8 dX0_lowestFrom_56 (by decide)
theorem s8_59 : aW d 8 59 [l0, l1, l2, .int a, l4] S h Q = aW d 8 60 [l0, l1, l2, .int a, l4] (.int a :: S) h Q := ax_iload_n mt8 dX0_lowestFrom_59 rfl
theorem s8_60 : aW d 8 60 L [.int a] h Q = Q (some (.int a)) h := ax_reti mt8 dX0_lowestFrom_60 rfl
-- method 9: BufferRoom$Floor.top([I)I
theorem dX0_top_0 : decode cX0_top 0 = .ok (.iconst 0, 1) := by decide +kernel
theorem dX0_top_1 : decode cX0_top 1 = .ok (.istore_n 2, 1) := by decide +kernel
theorem dX0_top_2 : decode cX0_top 2 = .ok (.iconst 0, 1) := by decide +kernel
theorem dX0_top_3 : decode cX0_top 3 = .ok (.istore_n 3, 1) := by decide +kernel
theorem dX0_top_4 : decode cX0_top 4 = .ok (.iload_n 3, 1) := by decide +kernel
theorem dX0_top_5 : decode cX0_top 5 = .ok (.bipush 12, 2) := by decide +kernel
theorem dX0_top_7 : decode cX0_top 7 = .ok (.if_icmp .ge 33, 3) := by decide +kernel
theorem dX0_top_10 : decode cX0_top 10 = .ok (.aload_n 0, 1) := by decide +kernel
theorem dX0_top_11 : decode cX0_top 11 = .ok (.getfield 9, 3) := by decide +kernel
theorem dX0_top_14 : decode cX0_top 14 = .ok (.iload_n 3, 1) := by decide +kernel
theorem dX0_top_15 : decode cX0_top 15 = .ok (.iaload, 1) := by decide +kernel
theorem dX0_top_16 : decode cX0_top 16 = .ok (.ifCond .lt 18, 3) := by decide +kernel
theorem dX0_top_19 : decode cX0_top 19 = .ok (.iload_n 2, 1) := by decide +kernel
theorem dX0_top_20 : decode cX0_top 20 = .ok (.aload_n 0, 1) := by decide +kernel
theorem dX0_top_21 : decode cX0_top 21 = .ok (.getfield 9, 3) := by decide +kernel
theorem dX0_top_24 : decode cX0_top 24 = .ok (.iload_n 3, 1) := by decide +kernel
theorem dX0_top_25 : decode cX0_top 25 = .ok (.iaload, 1) := by decide +kernel
theorem dX0_top_26 : decode cX0_top 26 = .ok (.aload_n 1, 1) := by decide +kernel
theorem dX0_top_27 : decode cX0_top 27 = .ok (.iload_n 3, 1) := by decide +kernel
theorem dX0_top_28 : decode cX0_top 28 = .ok (.iaload, 1) := by decide +kernel
theorem dX0_top_29 : decode cX0_top 29 = .ok (.iadd, 1) := by decide +kernel
theorem dX0_top_30 : decode cX0_top 30 = .ok (.invokestatic 75, 3) := by decide +kernel
theorem dX0_top_33 : decode cX0_top 33 = .ok (.istore_n 2, 1) := by decide +kernel
theorem dX0_top_34 : decode cX0_top 34 = .ok (.iinc 3 1, 3) := by decide +kernel
theorem dX0_top_37 : decode cX0_top 37 = .ok (.goto (-33), 3) := by decide +kernel
theorem dX0_top_40 : decode cX0_top 40 = .ok (.iload_n 2, 1) := by decide +kernel
theorem dX0_top_41 : decode cX0_top 41 = .ok (.ireturn, 1) := by decide +kernel
theorem s9_0 : aW d 9 0 L S h Q = aW d 9 1 L (.int (nI 0) :: S) h Q := ax_iconst mt9 dX0_top_0 ic_0
theorem s9_1 : aW d 9 1 [l0, l1, l2, l3] (.int a :: S) h Q = aW d 9 2 [l0, l1, .int a, l3] S h Q := ax_istore_n mt9 dX0_top_1 (Nat.le_of_ble_eq_true rfl) rfl
theorem s9_2 : aW d 9 2 L S h Q = aW d 9 3 L (.int (nI 0) :: S) h Q := ax_iconst mt9 dX0_top_2 ic_0
theorem s9_3 : aW d 9 3 [l0, l1, l2, l3] (.int a :: S) h Q = aW d 9 4 [l0, l1, l2, .int a] S h Q := ax_istore_n mt9 dX0_top_3 (Nat.le_of_ble_eq_true rfl) rfl
theorem s9_4 : aW d 9 4 [l0, l1, l2, .int a] S h Q = aW d 9 5 [l0, l1, l2, .int a] (.int a :: S) h Q := ax_iload_n mt9 dX0_top_4 rfl
theorem s9_5 : aW d 9 5 L S h Q = aW d 9 7 L (.int (nI 12) :: S) h Q := ax_bipush mt9 dX0_top_5 bp_12
theorem s9_7 : aW d 9 7 L (.int b :: .int a :: S) h Q = (if a < b then aW d 9 10 L S h Q else aW d 9 40 L S h Q) := ax_icmp_ge mt9 dX0_top_7 (by decide)
theorem s9_10 : aW d 9 10 [.ref o, l1, l2, l3] S h Q = aW d 9 11 [.ref o, l1, l2, l3] (.ref o :: S) h Q := ax_aload_n mt9 dX0_top_10 rfl
theorem s9_11 (hT : gT h o = some (3, 5)) : aW d 9 11 L (.ref o :: S) h Q = (isRf (gR h o 3) = true ∧ aW d 9 14 L (gR h o 3 :: S) h Q) := ax_geta mt9 dX0_top_11 (by decide) ft_9 fk_9 hT
theorem s9_14 : aW d 9 14 [l0, l1, l2, .int a] S h Q = aW d 9 15 [l0, l1, l2, .int a] (.int a :: S) h Q := ax_iload_n mt9 dX0_top_14 rfl
theorem s9_15 : aW d 9 15 L (.int a :: .ref o :: S) h Q = (inb a (aI h o) ∧ aW d 9 16 L (.int (gI h o a.toNatClampNeg) :: S) h Q) := ax_iald mt9 dX0_top_15
theorem s9_16 : aW d 9 16 L (.int a :: S) h Q = (if a < 0 then aW d 9 34 L S h Q else aW d 9 19 L S h Q) := ax_if_lt mt9 dX0_top_16 (by decide)
theorem s9_19 : aW d 9 19 [l0, l1, .int a, l3] S h Q = aW d 9 20 [l0, l1, .int a, l3] (.int a :: S) h Q := ax_iload_n mt9 dX0_top_19 rfl
theorem s9_20 : aW d 9 20 [.ref o, l1, l2, l3] S h Q = aW d 9 21 [.ref o, l1, l2, l3] (.ref o :: S) h Q := ax_aload_n mt9 dX0_top_20 rfl
theorem s9_21 (hT : gT h o = some (3, 5)) : aW d 9 21 L (.ref o :: S) h Q = (isRf (gR h o 3) = true ∧ aW d 9 24 L (gR h o 3 :: S) h Q) := ax_geta mt9 dX0_top_21 (by decide) ft_9 fk_9 hT
theorem s9_24 : aW d 9 24 [l0, l1, l2, .int a] S h Q = aW d 9 25 [l0, l1, l2, .int a] (.int a :: S) h Q := ax_iload_n mt9 dX0_top_24 rfl
theorem s9_25 : aW d 9 25 L (.int a :: .ref o :: S) h Q = (inb a (aI h o) ∧ aW d 9 26 L (.int (gI h o a.toNatClampNeg) :: S) h Q) := ax_iald mt9 dX0_top_25
theorem s9_26 : aW d 9 26 [l0, .ref o, l2, l3] S h Q = aW d 9 27 [l0, .ref o, l2, l3] (.ref o :: S) h Q := ax_aload_n mt9 dX0_top_26 rfl
theorem s9_27 : aW d 9 27 [l0, l1, l2, .int a] S h Q = aW d 9 28 [l0, l1, l2, .int a] (.int a :: S) h Q := ax_iload_n mt9 dX0_top_27 rfl
theorem s9_28 : aW d 9 28 L (.int a :: .ref o :: S) h Q = (inb a (aI h o) ∧ aW d 9 29 L (.int (gI h o a.toNatClampNeg) :: S) h Q) := ax_iald mt9 dX0_top_28
theorem s9_29 : aW d 9 29 L (.int b :: .int a :: S) h Q = aW d 9 30 L (.int (a + b) :: S) h Q := ax_iadd mt9 dX0_top_29
theorem s9_30 : aW (d + 1) 9 30 L (.int b :: .int a :: []) h Q = aW (d + 1) 9 33 L (.int (iMax a b) :: []) h Q := ax_max mt9 dX0_top_30 (by decide) ct_75 (Nat.le_of_ble_eq_true rfl)
theorem s9_33 : aW d 9 33 [l0, l1, l2, l3] (.int a :: S) h Q = aW d 9 34 [l0, l1, .int a, l3] S h Q := ax_istore_n mt9 dX0_top_33 (Nat.le_of_ble_eq_true rfl) rfl
theorem s9_34 : aW d 9 34 [l0, l1, l2, .int a] S h Q = aW d 9 37 [l0, l1, l2, .int (a + nI 1)] S h Q := ax_iinc mt9 dX0_top_34 rfl ic_1 rfl
theorem s9_37 : aW d 9 37 L S h Q = aW d 9 4 L S h Q := ax_goto mt9 dX0_top_37 (by decide)
theorem s9_40 : aW d 9 40 [l0, l1, .int a, l3] S h Q = aW d 9 41 [l0, l1, .int a, l3] (.int a :: S) h Q := ax_iload_n mt9 dX0_top_40 rfl
theorem s9_41 : aW d 9 41 L [.int a] h Q = Q (some (.int a)) h := ax_reti mt9 dX0_top_41 rfl
-- method 10: BufferRoom$Floor.moveDown([I)I
theorem dX0_moveDown_0 : decode cX0_moveDown 0 = .ok (.iconst 0, 1) := by decide +kernel
theorem dX0_moveDown_1 : decode cX0_moveDown 1 = .ok (.istore_n 2, 1) := by decide +kernel
theorem dX0_moveDown_2 : decode cX0_moveDown 2 = .ok (.iconst 0, 1) := by decide +kernel
theorem dX0_moveDown_3 : decode cX0_moveDown 3 = .ok (.istore_n 3, 1) := by decide +kernel
theorem dX0_moveDown_4 : decode cX0_moveDown 4 = .ok (.iconst 0, 1) := by decide +kernel
theorem dX0_moveDown_5 : decode cX0_moveDown 5 = .ok (.istore 4, 2) := by decide +kernel
theorem dX0_moveDown_7 : decode cX0_moveDown 7 = .ok (.iconst 0, 1) := by decide +kernel
theorem dX0_moveDown_8 : decode cX0_moveDown 8 = .ok (.istore 5, 2) := by decide +kernel
theorem dX0_moveDown_10 : decode cX0_moveDown 10 = .ok (.iload 5, 2) := by decide +kernel
theorem dX0_moveDown_12 : decode cX0_moveDown 12 = .ok (.bipush 12, 2) := by decide +kernel
theorem dX0_moveDown_14 : decode cX0_moveDown 14 = .ok (.if_icmp .ge 67, 3) := by decide +kernel
theorem dX0_moveDown_17 : decode cX0_moveDown 17 = .ok (.aload_n 0, 1) := by decide +kernel
theorem dX0_moveDown_18 : decode cX0_moveDown 18 = .ok (.iload 4, 2) := by decide +kernel
theorem dX0_moveDown_20 : decode cX0_moveDown 20 = .ok (.invokevirtual 102, 3) := by decide +kernel
theorem dX0_moveDown_23 : decode cX0_moveDown 23 = .ok (.istore 6, 2) := by decide +kernel
theorem dX0_moveDown_25 : decode cX0_moveDown 25 = .ok (.iload 6, 2) := by decide +kernel
theorem dX0_moveDown_27 : decode cX0_moveDown 27 = .ok (.ifCond .ge 6, 3) := by decide +kernel
theorem dX0_moveDown_30 : decode cX0_moveDown 30 = .ok (.goto 51, 3) := by decide +kernel
theorem dX0_moveDown_33 : decode cX0_moveDown 33 = .ok (.aload_n 0, 1) := by decide +kernel
theorem dX0_moveDown_34 : decode cX0_moveDown 34 = .ok (.getfield 9, 3) := by decide +kernel
theorem dX0_moveDown_37 : decode cX0_moveDown 37 = .ok (.iload 6, 2) := by decide +kernel
theorem dX0_moveDown_39 : decode cX0_moveDown 39 = .ok (.iaload, 1) := by decide +kernel
theorem dX0_moveDown_40 : decode cX0_moveDown 40 = .ok (.iload_n 3, 1) := by decide +kernel
theorem dX0_moveDown_41 : decode cX0_moveDown 41 = .ok (.if_icmp .eq 18, 3) := by decide +kernel
theorem dX0_moveDown_44 : decode cX0_moveDown 44 = .ok (.iload_n 2, 1) := by decide +kernel
theorem dX0_moveDown_45 : decode cX0_moveDown 45 = .ok (.aload_n 1, 1) := by decide +kernel
theorem dX0_moveDown_46 : decode cX0_moveDown 46 = .ok (.iload 6, 2) := by decide +kernel
theorem dX0_moveDown_48 : decode cX0_moveDown 48 = .ok (.iaload, 1) := by decide +kernel
theorem dX0_moveDown_49 : decode cX0_moveDown 49 = .ok (.iadd, 1) := by decide +kernel
theorem dX0_moveDown_50 : decode cX0_moveDown 50 = .ok (.istore_n 2, 1) := by decide +kernel
theorem dX0_moveDown_51 : decode cX0_moveDown 51 = .ok (.aload_n 0, 1) := by decide +kernel
theorem dX0_moveDown_52 : decode cX0_moveDown 52 = .ok (.getfield 9, 3) := by decide +kernel
theorem dX0_moveDown_55 : decode cX0_moveDown 55 = .ok (.iload 6, 2) := by decide +kernel
theorem dX0_moveDown_57 : decode cX0_moveDown 57 = .ok (.iload_n 3, 1) := by decide +kernel
theorem dX0_moveDown_58 : decode cX0_moveDown 58 = .ok (.iastore, 1) := by decide +kernel
theorem dX0_moveDown_59 : decode cX0_moveDown 59 = .ok (.iload_n 3, 1) := by decide +kernel
theorem dX0_moveDown_60 : decode cX0_moveDown 60 = .ok (.aload_n 1, 1) := by decide +kernel
theorem dX0_moveDown_61 : decode cX0_moveDown 61 = .ok (.iload 6, 2) := by decide +kernel
theorem dX0_moveDown_63 : decode cX0_moveDown 63 = .ok (.iaload, 1) := by decide +kernel
theorem dX0_moveDown_64 : decode cX0_moveDown 64 = .ok (.iadd, 1) := by decide +kernel
theorem dX0_moveDown_65 : decode cX0_moveDown 65 = .ok (.istore_n 3, 1) := by decide +kernel
theorem dX0_moveDown_66 : decode cX0_moveDown 66 = .ok (.iload 4, 2) := by decide +kernel
theorem dX0_moveDown_68 : decode cX0_moveDown 68 = .ok (.iconst 1, 1) := by decide +kernel
theorem dX0_moveDown_69 : decode cX0_moveDown 69 = .ok (.iload 6, 2) := by decide +kernel
theorem dX0_moveDown_71 : decode cX0_moveDown 71 = .ok (.ishl, 1) := by decide +kernel
theorem dX0_moveDown_72 : decode cX0_moveDown 72 = .ok (.ior, 1) := by decide +kernel
theorem dX0_moveDown_73 : decode cX0_moveDown 73 = .ok (.istore 4, 2) := by decide +kernel
theorem dX0_moveDown_75 : decode cX0_moveDown 75 = .ok (.iinc 5 1, 3) := by decide +kernel
theorem dX0_moveDown_78 : decode cX0_moveDown 78 = .ok (.goto (-68), 3) := by decide +kernel
theorem dX0_moveDown_81 : decode cX0_moveDown 81 = .ok (.iload_n 2, 1) := by decide +kernel
theorem dX0_moveDown_82 : decode cX0_moveDown 82 = .ok (.ireturn, 1) := by decide +kernel
theorem s10_0 : aW d 10 0 L S h Q = aW d 10 1 L (.int (nI 0) :: S) h Q := ax_iconst mt10 dX0_moveDown_0 ic_0
theorem s10_1 : aW d 10 1 [l0, l1, l2, l3, l4, l5, l6] (.int a :: S) h Q = aW d 10 2 [l0, l1, .int a, l3, l4, l5, l6] S h Q := ax_istore_n mt10 dX0_moveDown_1 (Nat.le_of_ble_eq_true rfl) rfl
theorem s10_2 : aW d 10 2 L S h Q = aW d 10 3 L (.int (nI 0) :: S) h Q := ax_iconst mt10 dX0_moveDown_2 ic_0
theorem s10_3 : aW d 10 3 [l0, l1, l2, l3, l4, l5, l6] (.int a :: S) h Q = aW d 10 4 [l0, l1, l2, .int a, l4, l5, l6] S h Q := ax_istore_n mt10 dX0_moveDown_3 (Nat.le_of_ble_eq_true rfl) rfl
theorem s10_4 : aW d 10 4 L S h Q = aW d 10 5 L (.int (nI 0) :: S) h Q := ax_iconst mt10 dX0_moveDown_4 ic_0
theorem s10_5 : aW d 10 5 [l0, l1, l2, l3, l4, l5, l6] (.int a :: S) h Q = aW d 10 7 [l0, l1, l2, l3, .int a, l5, l6] S h Q := ax_istore mt10 dX0_moveDown_5 (Nat.le_of_ble_eq_true rfl) rfl
theorem s10_7 : aW d 10 7 L S h Q = aW d 10 8 L (.int (nI 0) :: S) h Q := ax_iconst mt10 dX0_moveDown_7 ic_0
theorem s10_8 : aW d 10 8 [l0, l1, l2, l3, l4, l5, l6] (.int a :: S) h Q = aW d 10 10 [l0, l1, l2, l3, l4, .int a, l6] S h Q := ax_istore mt10 dX0_moveDown_8 (Nat.le_of_ble_eq_true rfl) rfl
theorem s10_10 : aW d 10 10 [l0, l1, l2, l3, l4, .int a, l6] S h Q = aW d 10 12 [l0, l1, l2, l3, l4, .int a, l6] (.int a :: S) h Q := ax_iload mt10 dX0_moveDown_10 rfl
theorem s10_12 : aW d 10 12 L S h Q = aW d 10 14 L (.int (nI 12) :: S) h Q := ax_bipush mt10 dX0_moveDown_12 bp_12
theorem s10_14 : aW d 10 14 L (.int b :: .int a :: S) h Q = (if a < b then aW d 10 17 L S h Q else aW d 10 81 L S h Q) := ax_icmp_ge mt10 dX0_moveDown_14 (by decide)
theorem s10_17 : aW d 10 17 [.ref o, l1, l2, l3, l4, l5, l6] S h Q = aW d 10 18 [.ref o, l1, l2, l3, l4, l5, l6] (.ref o :: S) h Q := ax_aload_n mt10 dX0_moveDown_17 rfl
theorem s10_18 : aW d 10 18 [l0, l1, l2, l3, .int a, l5, l6] S h Q = aW d 10 20 [l0, l1, l2, l3, .int a, l5, l6] (.int a :: S) h Q := ax_iload mt10 dX0_moveDown_18 rfl
theorem s10_20 (hT : gT h o = some (3, 5)) : aW (d + 1) 10 20 L (.int x0 :: .ref o :: []) h Q = aM d 11 (.ref o :: [.int x0]) h (fun v h1 => aW (d + 1) 10 23 L (ab_ps v []) h1 Q) := ax_invv mt10 dX0_moveDown_20 (by decide) ct_102 (.inl rfl) mt11 ⟨⟨Nat.le_of_ble_eq_true rfl, Nat.le_of_ble_eq_true rfl, Nat.le_of_ble_eq_true rfl⟩, rfl, rfl, rfl⟩ hT
theorem s10_23 : aW d 10 23 [l0, l1, l2, l3, l4, l5, l6] (.int a :: S) h Q = aW d 10 25 [l0, l1, l2, l3, l4, l5, .int a] S h Q := ax_istore mt10 dX0_moveDown_23 (Nat.le_of_ble_eq_true rfl) rfl
theorem s10_25 : aW d 10 25 [l0, l1, l2, l3, l4, l5, .int a] S h Q = aW d 10 27 [l0, l1, l2, l3, l4, l5, .int a] (.int a :: S) h Q := ax_iload mt10 dX0_moveDown_25 rfl
theorem s10_27 : aW d 10 27 L (.int a :: S) h Q = (if a < 0 then aW d 10 30 L S h Q else aW d 10 33 L S h Q) := ax_if_ge mt10 dX0_moveDown_27 (by decide)
theorem s10_30 : aW d 10 30 L S h Q = aW d 10 81 L S h Q := ax_goto mt10 dX0_moveDown_30 (by decide)
theorem s10_33 : aW d 10 33 [.ref o, l1, l2, l3, l4, l5, l6] S h Q = aW d 10 34 [.ref o, l1, l2, l3, l4, l5, l6] (.ref o :: S) h Q := ax_aload_n mt10 dX0_moveDown_33 rfl
theorem s10_34 (hT : gT h o = some (3, 5)) : aW d 10 34 L (.ref o :: S) h Q = (isRf (gR h o 3) = true ∧ aW d 10 37 L (gR h o 3 :: S) h Q) := ax_geta mt10 dX0_moveDown_34 (by decide) ft_9 fk_9 hT
theorem s10_37 : aW d 10 37 [l0, l1, l2, l3, l4, l5, .int a] S h Q = aW d 10 39 [l0, l1, l2, l3, l4, l5, .int a] (.int a :: S) h Q := ax_iload mt10 dX0_moveDown_37 rfl
theorem s10_39 : aW d 10 39 L (.int a :: .ref o :: S) h Q = (inb a (aI h o) ∧ aW d 10 40 L (.int (gI h o a.toNatClampNeg) :: S) h Q) := ax_iald mt10 dX0_moveDown_39
theorem s10_40 : aW d 10 40 [l0, l1, l2, .int a, l4, l5, l6] S h Q = aW d 10 41 [l0, l1, l2, .int a, l4, l5, l6] (.int a :: S) h Q := ax_iload_n mt10 dX0_moveDown_40 rfl
theorem s10_41 : aW d 10 41 L (.int b :: .int a :: S) h Q = (if a = b then aW d 10 59 L S h Q else aW d 10 44 L S h Q) := ax_icmp_eq mt10 dX0_moveDown_41 (by decide)
theorem s10_44 : aW d 10 44 [l0, l1, .int a, l3, l4, l5, l6] S h Q = aW d 10 45 [l0, l1, .int a, l3, l4, l5, l6] (.int a :: S) h Q := ax_iload_n mt10 dX0_moveDown_44 rfl
theorem s10_45 : aW d 10 45 [l0, .ref o, l2, l3, l4, l5, l6] S h Q = aW d 10 46 [l0, .ref o, l2, l3, l4, l5, l6] (.ref o :: S) h Q := ax_aload_n mt10 dX0_moveDown_45 rfl
theorem s10_46 : aW d 10 46 [l0, l1, l2, l3, l4, l5, .int a] S h Q = aW d 10 48 [l0, l1, l2, l3, l4, l5, .int a] (.int a :: S) h Q := ax_iload mt10 dX0_moveDown_46 rfl
theorem s10_48 : aW d 10 48 L (.int a :: .ref o :: S) h Q = (inb a (aI h o) ∧ aW d 10 49 L (.int (gI h o a.toNatClampNeg) :: S) h Q) := ax_iald mt10 dX0_moveDown_48
theorem s10_49 : aW d 10 49 L (.int b :: .int a :: S) h Q = aW d 10 50 L (.int (a + b) :: S) h Q := ax_iadd mt10 dX0_moveDown_49
theorem s10_50 : aW d 10 50 [l0, l1, l2, l3, l4, l5, l6] (.int a :: S) h Q = aW d 10 51 [l0, l1, .int a, l3, l4, l5, l6] S h Q := ax_istore_n mt10 dX0_moveDown_50 (Nat.le_of_ble_eq_true rfl) rfl
theorem s10_51 : aW d 10 51 [.ref o, l1, l2, l3, l4, l5, l6] S h Q = aW d 10 52 [.ref o, l1, l2, l3, l4, l5, l6] (.ref o :: S) h Q := ax_aload_n mt10 dX0_moveDown_51 rfl
theorem s10_52 (hT : gT h o = some (3, 5)) : aW d 10 52 L (.ref o :: S) h Q = (isRf (gR h o 3) = true ∧ aW d 10 55 L (gR h o 3 :: S) h Q) := ax_geta mt10 dX0_moveDown_52 (by decide) ft_9 fk_9 hT
theorem s10_55 : aW d 10 55 [l0, l1, l2, l3, l4, l5, .int a] S h Q = aW d 10 57 [l0, l1, l2, l3, l4, l5, .int a] (.int a :: S) h Q := ax_iload mt10 dX0_moveDown_55 rfl
theorem s10_57 : aW d 10 57 [l0, l1, l2, .int a, l4, l5, l6] S h Q = aW d 10 58 [l0, l1, l2, .int a, l4, l5, l6] (.int a :: S) h Q := ax_iload_n mt10 dX0_moveDown_57 rfl
theorem s10_58 : aW d 10 58 L (.int b :: .int a :: .ref o :: S) h Q = (inb a (aJ h o) ∧ aW d 10 59 L S (pI h o a.toNatClampNeg b) Q) := ax_iast mt10 dX0_moveDown_58
theorem s10_59 : aW d 10 59 [l0, l1, l2, .int a, l4, l5, l6] S h Q = aW d 10 60 [l0, l1, l2, .int a, l4, l5, l6] (.int a :: S) h Q := ax_iload_n mt10 dX0_moveDown_59 rfl
theorem s10_60 : aW d 10 60 [l0, .ref o, l2, l3, l4, l5, l6] S h Q = aW d 10 61 [l0, .ref o, l2, l3, l4, l5, l6] (.ref o :: S) h Q := ax_aload_n mt10 dX0_moveDown_60 rfl
theorem s10_61 : aW d 10 61 [l0, l1, l2, l3, l4, l5, .int a] S h Q = aW d 10 63 [l0, l1, l2, l3, l4, l5, .int a] (.int a :: S) h Q := ax_iload mt10 dX0_moveDown_61 rfl
theorem s10_63 : aW d 10 63 L (.int a :: .ref o :: S) h Q = (inb a (aI h o) ∧ aW d 10 64 L (.int (gI h o a.toNatClampNeg) :: S) h Q) := ax_iald mt10 dX0_moveDown_63
theorem s10_64 : aW d 10 64 L (.int b :: .int a :: S) h Q = aW d 10 65 L (.int (a + b) :: S) h Q := ax_iadd mt10 dX0_moveDown_64
theorem s10_65 : aW d 10 65 [l0, l1, l2, l3, l4, l5, l6] (.int a :: S) h Q = aW d 10 66 [l0, l1, l2, .int a, l4, l5, l6] S h Q := ax_istore_n mt10 dX0_moveDown_65 (Nat.le_of_ble_eq_true rfl) rfl
theorem s10_66 : aW d 10 66 [l0, l1, l2, l3, .int a, l5, l6] S h Q = aW d 10 68 [l0, l1, l2, l3, .int a, l5, l6] (.int a :: S) h Q := ax_iload mt10 dX0_moveDown_66 rfl
theorem s10_68 : aW d 10 68 L S h Q = aW d 10 69 L (.int (nI 1) :: S) h Q := ax_iconst mt10 dX0_moveDown_68 ic_1
theorem s10_69 : aW d 10 69 [l0, l1, l2, l3, l4, l5, .int a] S h Q = aW d 10 71 [l0, l1, l2, l3, l4, l5, .int a] (.int a :: S) h Q := ax_iload mt10 dX0_moveDown_69 rfl
theorem s10_71 : aW d 10 71 L (.int b :: .int a :: S) h Q = aW d 10 72 L (.int (a <<< (b &&& 31)) :: S) h Q := ax_ishl mt10 dX0_moveDown_71
theorem s10_72 : aW d 10 72 L (.int b :: .int a :: S) h Q = aW d 10 73 L (.int (a ||| b) :: S) h Q := ax_ior mt10 dX0_moveDown_72
theorem s10_73 : aW d 10 73 [l0, l1, l2, l3, l4, l5, l6] (.int a :: S) h Q = aW d 10 75 [l0, l1, l2, l3, .int a, l5, l6] S h Q := ax_istore mt10 dX0_moveDown_73 (Nat.le_of_ble_eq_true rfl) rfl
theorem s10_75 : aW d 10 75 [l0, l1, l2, l3, l4, .int a, l6] S h Q = aW d 10 78 [l0, l1, l2, l3, l4, .int (a + nI 1), l6] S h Q := ax_iinc mt10 dX0_moveDown_75 rfl ic_1 rfl
theorem s10_78 : aW d 10 78 L S h Q = aW d 10 10 L S h Q := ax_goto mt10 dX0_moveDown_78 (by decide)
theorem s10_81 : aW d 10 81 [l0, l1, .int a, l3, l4, l5, l6] S h Q = aW d 10 82 [l0, l1, .int a, l3, l4, l5, l6] (.int a :: S) h Q := ax_iload_n mt10 dX0_moveDown_81 rfl
theorem s10_82 : aW d 10 82 L [.int a] h Q = Q (some (.int a)) h := ax_reti mt10 dX0_moveDown_82 rfl
-- method 11: BufferRoom$Floor.lowestBut(I)I
theorem dX0_lowestBut_0 : decode cX0_lowestBut 0 = .ok (.iconst (-1), 1) := by decide +kernel
theorem dX0_lowestBut_1 : decode cX0_lowestBut 1 = .ok (.istore_n 2, 1) := by decide +kernel
theorem dX0_lowestBut_2 : decode cX0_lowestBut 2 = .ok (.iconst 0, 1) := by decide +kernel
theorem dX0_lowestBut_3 : decode cX0_lowestBut 3 = .ok (.istore_n 3, 1) := by decide +kernel
theorem dX0_lowestBut_4 : decode cX0_lowestBut 4 = .ok (.iload_n 3, 1) := by decide +kernel
theorem dX0_lowestBut_5 : decode cX0_lowestBut 5 = .ok (.bipush 12, 2) := by decide +kernel
theorem dX0_lowestBut_7 : decode cX0_lowestBut 7 = .ok (.if_icmp .ge 47, 3) := by decide +kernel
theorem dX0_lowestBut_10 : decode cX0_lowestBut 10 = .ok (.aload_n 0, 1) := by decide +kernel
theorem dX0_lowestBut_11 : decode cX0_lowestBut 11 = .ok (.getfield 9, 3) := by decide +kernel
theorem dX0_lowestBut_14 : decode cX0_lowestBut 14 = .ok (.iload_n 3, 1) := by decide +kernel
theorem dX0_lowestBut_15 : decode cX0_lowestBut 15 = .ok (.iaload, 1) := by decide +kernel
theorem dX0_lowestBut_16 : decode cX0_lowestBut 16 = .ok (.ifCond .lt 32, 3) := by decide +kernel
theorem dX0_lowestBut_19 : decode cX0_lowestBut 19 = .ok (.iload_n 1, 1) := by decide +kernel
theorem dX0_lowestBut_20 : decode cX0_lowestBut 20 = .ok (.iload_n 3, 1) := by decide +kernel
theorem dX0_lowestBut_21 : decode cX0_lowestBut 21 = .ok (.ishr, 1) := by decide +kernel
theorem dX0_lowestBut_22 : decode cX0_lowestBut 22 = .ok (.iconst 1, 1) := by decide +kernel
theorem dX0_lowestBut_23 : decode cX0_lowestBut 23 = .ok (.iand, 1) := by decide +kernel
theorem dX0_lowestBut_24 : decode cX0_lowestBut 24 = .ok (.ifCond .ne 24, 3) := by decide +kernel
theorem dX0_lowestBut_27 : decode cX0_lowestBut 27 = .ok (.iload_n 2, 1) := by decide +kernel
theorem dX0_lowestBut_28 : decode cX0_lowestBut 28 = .ok (.ifCond .lt 18, 3) := by decide +kernel
theorem dX0_lowestBut_31 : decode cX0_lowestBut 31 = .ok (.aload_n 0, 1) := by decide +kernel
theorem dX0_lowestBut_32 : decode cX0_lowestBut 32 = .ok (.getfield 9, 3) := by decide +kernel
theorem dX0_lowestBut_35 : decode cX0_lowestBut 35 = .ok (.iload_n 3, 1) := by decide +kernel
theorem dX0_lowestBut_36 : decode cX0_lowestBut 36 = .ok (.iaload, 1) := by decide +kernel
theorem dX0_lowestBut_37 : decode cX0_lowestBut 37 = .ok (.aload_n 0, 1) := by decide +kernel
theorem dX0_lowestBut_38 : decode cX0_lowestBut 38 = .ok (.getfield 9, 3) := by decide +kernel
theorem dX0_lowestBut_41 : decode cX0_lowestBut 41 = .ok (.iload_n 2, 1) := by decide +kernel
theorem dX0_lowestBut_42 : decode cX0_lowestBut 42 = .ok (.iaload, 1) := by decide +kernel
theorem dX0_lowestBut_43 : decode cX0_lowestBut 43 = .ok (.if_icmp .ge 5, 3) := by decide +kernel
theorem dX0_lowestBut_46 : decode cX0_lowestBut 46 = .ok (.iload_n 3, 1) := by decide +kernel
theorem dX0_lowestBut_47 : decode cX0_lowestBut 47 = .ok (.istore_n 2, 1) := by decide +kernel
theorem dX0_lowestBut_48 : decode cX0_lowestBut 48 = .ok (.iinc 3 1, 3) := by decide +kernel
theorem dX0_lowestBut_51 : decode cX0_lowestBut 51 = .ok (.goto (-47), 3) := by decide +kernel
theorem dX0_lowestBut_54 : decode cX0_lowestBut 54 = .ok (.iload_n 2, 1) := by decide +kernel
theorem dX0_lowestBut_55 : decode cX0_lowestBut 55 = .ok (.ireturn, 1) := by decide +kernel
theorem s11_0 : aW d 11 0 L S h Q = aW d 11 1 L (.int ((-1)) :: S) h Q := ax_iconst mt11 dX0_lowestBut_0 ic_m1
theorem s11_1 : aW d 11 1 [l0, l1, l2, l3] (.int a :: S) h Q = aW d 11 2 [l0, l1, .int a, l3] S h Q := ax_istore_n mt11 dX0_lowestBut_1 (Nat.le_of_ble_eq_true rfl) rfl
theorem s11_2 : aW d 11 2 L S h Q = aW d 11 3 L (.int (nI 0) :: S) h Q := ax_iconst mt11 dX0_lowestBut_2 ic_0
theorem s11_3 : aW d 11 3 [l0, l1, l2, l3] (.int a :: S) h Q = aW d 11 4 [l0, l1, l2, .int a] S h Q := ax_istore_n mt11 dX0_lowestBut_3 (Nat.le_of_ble_eq_true rfl) rfl
theorem s11_4 : aW d 11 4 [l0, l1, l2, .int a] S h Q = aW d 11 5 [l0, l1, l2, .int a] (.int a :: S) h Q := ax_iload_n mt11 dX0_lowestBut_4 rfl
theorem s11_5 : aW d 11 5 L S h Q = aW d 11 7 L (.int (nI 12) :: S) h Q := ax_bipush mt11 dX0_lowestBut_5 bp_12
theorem s11_7 : aW d 11 7 L (.int b :: .int a :: S) h Q = (if a < b then aW d 11 10 L S h Q else aW d 11 54 L S h Q) := ax_icmp_ge mt11 dX0_lowestBut_7 (by decide)
theorem s11_10 : aW d 11 10 [.ref o, l1, l2, l3] S h Q = aW d 11 11 [.ref o, l1, l2, l3] (.ref o :: S) h Q := ax_aload_n mt11 dX0_lowestBut_10 rfl
theorem s11_11 (hT : gT h o = some (3, 5)) : aW d 11 11 L (.ref o :: S) h Q = (isRf (gR h o 3) = true ∧ aW d 11 14 L (gR h o 3 :: S) h Q) := ax_geta mt11 dX0_lowestBut_11 (by decide) ft_9 fk_9 hT
theorem s11_14 : aW d 11 14 [l0, l1, l2, .int a] S h Q = aW d 11 15 [l0, l1, l2, .int a] (.int a :: S) h Q := ax_iload_n mt11 dX0_lowestBut_14 rfl
theorem s11_15 : aW d 11 15 L (.int a :: .ref o :: S) h Q = (inb a (aI h o) ∧ aW d 11 16 L (.int (gI h o a.toNatClampNeg) :: S) h Q) := ax_iald mt11 dX0_lowestBut_15
theorem s11_16 : aW d 11 16 L (.int a :: S) h Q = (if a < 0 then aW d 11 48 L S h Q else aW d 11 19 L S h Q) := ax_if_lt mt11 dX0_lowestBut_16 (by decide)
theorem s11_19 : aW d 11 19 [l0, .int a, l2, l3] S h Q = aW d 11 20 [l0, .int a, l2, l3] (.int a :: S) h Q := ax_iload_n mt11 dX0_lowestBut_19 rfl
theorem s11_20 : aW d 11 20 [l0, l1, l2, .int a] S h Q = aW d 11 21 [l0, l1, l2, .int a] (.int a :: S) h Q := ax_iload_n mt11 dX0_lowestBut_20 rfl
theorem s11_21 : aW d 11 21 L (.int b :: .int a :: S) h Q = aW d 11 22 L (.int (a >>> (b &&& 31)) :: S) h Q := ax_ishr mt11 dX0_lowestBut_21
theorem s11_22 : aW d 11 22 L S h Q = aW d 11 23 L (.int (nI 1) :: S) h Q := ax_iconst mt11 dX0_lowestBut_22 ic_1
theorem s11_23 : aW d 11 23 L (.int b :: .int a :: S) h Q = aW d 11 24 L (.int (a &&& b) :: S) h Q := ax_iand mt11 dX0_lowestBut_23
theorem s11_24 : aW d 11 24 L (.int a :: S) h Q = (if a = 0 then aW d 11 27 L S h Q else aW d 11 48 L S h Q) := ax_if_ne mt11 dX0_lowestBut_24 (by decide)
theorem s11_27 : aW d 11 27 [l0, l1, .int a, l3] S h Q = aW d 11 28 [l0, l1, .int a, l3] (.int a :: S) h Q := ax_iload_n mt11 dX0_lowestBut_27 rfl
theorem s11_28 : aW d 11 28 L (.int a :: S) h Q = (if a < 0 then aW d 11 46 L S h Q else aW d 11 31 L S h Q) := ax_if_lt mt11 dX0_lowestBut_28 (by decide)
theorem s11_31 : aW d 11 31 [.ref o, l1, l2, l3] S h Q = aW d 11 32 [.ref o, l1, l2, l3] (.ref o :: S) h Q := ax_aload_n mt11 dX0_lowestBut_31 rfl
theorem s11_32 (hT : gT h o = some (3, 5)) : aW d 11 32 L (.ref o :: S) h Q = (isRf (gR h o 3) = true ∧ aW d 11 35 L (gR h o 3 :: S) h Q) := ax_geta mt11 dX0_lowestBut_32 (by decide) ft_9 fk_9 hT
theorem s11_35 : aW d 11 35 [l0, l1, l2, .int a] S h Q = aW d 11 36 [l0, l1, l2, .int a] (.int a :: S) h Q := ax_iload_n mt11 dX0_lowestBut_35 rfl
theorem s11_36 : aW d 11 36 L (.int a :: .ref o :: S) h Q = (inb a (aI h o) ∧ aW d 11 37 L (.int (gI h o a.toNatClampNeg) :: S) h Q) := ax_iald mt11 dX0_lowestBut_36
theorem s11_37 : aW d 11 37 [.ref o, l1, l2, l3] S h Q = aW d 11 38 [.ref o, l1, l2, l3] (.ref o :: S) h Q := ax_aload_n mt11 dX0_lowestBut_37 rfl
theorem s11_38 (hT : gT h o = some (3, 5)) : aW d 11 38 L (.ref o :: S) h Q = (isRf (gR h o 3) = true ∧ aW d 11 41 L (gR h o 3 :: S) h Q) := ax_geta mt11 dX0_lowestBut_38 (by decide) ft_9 fk_9 hT
theorem s11_41 : aW d 11 41 [l0, l1, .int a, l3] S h Q = aW d 11 42 [l0, l1, .int a, l3] (.int a :: S) h Q := ax_iload_n mt11 dX0_lowestBut_41 rfl
theorem s11_42 : aW d 11 42 L (.int a :: .ref o :: S) h Q = (inb a (aI h o) ∧ aW d 11 43 L (.int (gI h o a.toNatClampNeg) :: S) h Q) := ax_iald mt11 dX0_lowestBut_42
theorem s11_43 : aW d 11 43 L (.int b :: .int a :: S) h Q = (if a < b then aW d 11 46 L S h Q else aW d 11 48 L S h Q) := ax_icmp_ge mt11 dX0_lowestBut_43 (by decide)
theorem s11_46 : aW d 11 46 [l0, l1, l2, .int a] S h Q = aW d 11 47 [l0, l1, l2, .int a] (.int a :: S) h Q := ax_iload_n mt11 dX0_lowestBut_46 rfl
theorem s11_47 : aW d 11 47 [l0, l1, l2, l3] (.int a :: S) h Q = aW d 11 48 [l0, l1, .int a, l3] S h Q := ax_istore_n mt11 dX0_lowestBut_47 (Nat.le_of_ble_eq_true rfl) rfl
theorem s11_48 : aW d 11 48 [l0, l1, l2, .int a] S h Q = aW d 11 51 [l0, l1, l2, .int (a + nI 1)] S h Q := ax_iinc mt11 dX0_lowestBut_48 rfl ic_1 rfl
theorem s11_51 : aW d 11 51 L S h Q = aW d 11 4 L S h Q := ax_goto mt11 dX0_lowestBut_51 (by decide)
theorem s11_54 : aW d 11 54 [l0, l1, .int a, l3] S h Q = aW d 11 55 [l0, l1, .int a, l3] (.int a :: S) h Q := ax_iload_n mt11 dX0_lowestBut_54 rfl
theorem s11_55 : aW d 11 55 L [.int a] h Q = Q (some (.int a)) h := ax_reti mt11 dX0_lowestBut_55 rfl
-- method 12: BufferRoom$Floor.whoHolds(I[I)I
theorem dX0_whoHolds_0 : decode cX0_whoHolds 0 = .ok (.iconst 0, 1) := by decide +kernel
theorem dX0_whoHolds_1 : decode cX0_whoHolds 1 = .ok (.istore_n 3, 1) := by decide +kernel
theorem dX0_whoHolds_2 : decode cX0_whoHolds 2 = .ok (.iload_n 3, 1) := by decide +kernel
theorem dX0_whoHolds_3 : decode cX0_whoHolds 3 = .ok (.bipush 12, 2) := by decide +kernel
theorem dX0_whoHolds_5 : decode cX0_whoHolds 5 = .ok (.if_icmp .ge 44, 3) := by decide +kernel
theorem dX0_whoHolds_8 : decode cX0_whoHolds 8 = .ok (.aload_n 0, 1) := by decide +kernel
theorem dX0_whoHolds_9 : decode cX0_whoHolds 9 = .ok (.getfield 9, 3) := by decide +kernel
theorem dX0_whoHolds_12 : decode cX0_whoHolds 12 = .ok (.iload_n 3, 1) := by decide +kernel
theorem dX0_whoHolds_13 : decode cX0_whoHolds 13 = .ok (.iaload, 1) := by decide +kernel
theorem dX0_whoHolds_14 : decode cX0_whoHolds 14 = .ok (.ifCond .lt 29, 3) := by decide +kernel
theorem dX0_whoHolds_17 : decode cX0_whoHolds 17 = .ok (.aload_n 0, 1) := by decide +kernel
theorem dX0_whoHolds_18 : decode cX0_whoHolds 18 = .ok (.getfield 9, 3) := by decide +kernel
theorem dX0_whoHolds_21 : decode cX0_whoHolds 21 = .ok (.iload_n 3, 1) := by decide +kernel
theorem dX0_whoHolds_22 : decode cX0_whoHolds 22 = .ok (.iaload, 1) := by decide +kernel
theorem dX0_whoHolds_23 : decode cX0_whoHolds 23 = .ok (.iload_n 1, 1) := by decide +kernel
theorem dX0_whoHolds_24 : decode cX0_whoHolds 24 = .ok (.if_icmp .gt 19, 3) := by decide +kernel
theorem dX0_whoHolds_27 : decode cX0_whoHolds 27 = .ok (.iload_n 1, 1) := by decide +kernel
theorem dX0_whoHolds_28 : decode cX0_whoHolds 28 = .ok (.aload_n 0, 1) := by decide +kernel
theorem dX0_whoHolds_29 : decode cX0_whoHolds 29 = .ok (.getfield 9, 3) := by decide +kernel
theorem dX0_whoHolds_32 : decode cX0_whoHolds 32 = .ok (.iload_n 3, 1) := by decide +kernel
theorem dX0_whoHolds_33 : decode cX0_whoHolds 33 = .ok (.iaload, 1) := by decide +kernel
theorem dX0_whoHolds_34 : decode cX0_whoHolds 34 = .ok (.isub, 1) := by decide +kernel
theorem dX0_whoHolds_35 : decode cX0_whoHolds 35 = .ok (.aload_n 2, 1) := by decide +kernel
theorem dX0_whoHolds_36 : decode cX0_whoHolds 36 = .ok (.iload_n 3, 1) := by decide +kernel
theorem dX0_whoHolds_37 : decode cX0_whoHolds 37 = .ok (.iaload, 1) := by decide +kernel
theorem dX0_whoHolds_38 : decode cX0_whoHolds 38 = .ok (.if_icmp .ge 5, 3) := by decide +kernel
theorem dX0_whoHolds_41 : decode cX0_whoHolds 41 = .ok (.iload_n 3, 1) := by decide +kernel
theorem dX0_whoHolds_42 : decode cX0_whoHolds 42 = .ok (.ireturn, 1) := by decide +kernel
theorem dX0_whoHolds_43 : decode cX0_whoHolds 43 = .ok (.iinc 3 1, 3) := by decide +kernel
theorem dX0_whoHolds_46 : decode cX0_whoHolds 46 = .ok (.goto (-44), 3) := by decide +kernel
theorem dX0_whoHolds_49 : decode cX0_whoHolds 49 = .ok (.iconst (-1), 1) := by decide +kernel
theorem dX0_whoHolds_50 : decode cX0_whoHolds 50 = .ok (.ireturn, 1) := by decide +kernel
theorem s12_0 : aW d 12 0 L S h Q = aW d 12 1 L (.int (nI 0) :: S) h Q := ax_iconst mt12 dX0_whoHolds_0 ic_0
theorem s12_1 : aW d 12 1 [l0, l1, l2, l3] (.int a :: S) h Q = aW d 12 2 [l0, l1, l2, .int a] S h Q := ax_istore_n mt12 dX0_whoHolds_1 (Nat.le_of_ble_eq_true rfl) rfl
theorem s12_2 : aW d 12 2 [l0, l1, l2, .int a] S h Q = aW d 12 3 [l0, l1, l2, .int a] (.int a :: S) h Q := ax_iload_n mt12 dX0_whoHolds_2 rfl
theorem s12_3 : aW d 12 3 L S h Q = aW d 12 5 L (.int (nI 12) :: S) h Q := ax_bipush mt12 dX0_whoHolds_3 bp_12
theorem s12_5 : aW d 12 5 L (.int b :: .int a :: S) h Q = (if a < b then aW d 12 8 L S h Q else aW d 12 49 L S h Q) := ax_icmp_ge mt12 dX0_whoHolds_5 (by decide)
theorem s12_8 : aW d 12 8 [.ref o, l1, l2, l3] S h Q = aW d 12 9 [.ref o, l1, l2, l3] (.ref o :: S) h Q := ax_aload_n mt12 dX0_whoHolds_8 rfl
theorem s12_9 (hT : gT h o = some (3, 5)) : aW d 12 9 L (.ref o :: S) h Q = (isRf (gR h o 3) = true ∧ aW d 12 12 L (gR h o 3 :: S) h Q) := ax_geta mt12 dX0_whoHolds_9 (by decide) ft_9 fk_9 hT
theorem s12_12 : aW d 12 12 [l0, l1, l2, .int a] S h Q = aW d 12 13 [l0, l1, l2, .int a] (.int a :: S) h Q := ax_iload_n mt12 dX0_whoHolds_12 rfl
theorem s12_13 : aW d 12 13 L (.int a :: .ref o :: S) h Q = (inb a (aI h o) ∧ aW d 12 14 L (.int (gI h o a.toNatClampNeg) :: S) h Q) := ax_iald mt12 dX0_whoHolds_13
theorem s12_14 : aW d 12 14 L (.int a :: S) h Q = (if a < 0 then aW d 12 43 L S h Q else aW d 12 17 L S h Q) := ax_if_lt mt12 dX0_whoHolds_14 (by decide)
theorem s12_17 : aW d 12 17 [.ref o, l1, l2, l3] S h Q = aW d 12 18 [.ref o, l1, l2, l3] (.ref o :: S) h Q := ax_aload_n mt12 dX0_whoHolds_17 rfl
theorem s12_18 (hT : gT h o = some (3, 5)) : aW d 12 18 L (.ref o :: S) h Q = (isRf (gR h o 3) = true ∧ aW d 12 21 L (gR h o 3 :: S) h Q) := ax_geta mt12 dX0_whoHolds_18 (by decide) ft_9 fk_9 hT
theorem s12_21 : aW d 12 21 [l0, l1, l2, .int a] S h Q = aW d 12 22 [l0, l1, l2, .int a] (.int a :: S) h Q := ax_iload_n mt12 dX0_whoHolds_21 rfl
theorem s12_22 : aW d 12 22 L (.int a :: .ref o :: S) h Q = (inb a (aI h o) ∧ aW d 12 23 L (.int (gI h o a.toNatClampNeg) :: S) h Q) := ax_iald mt12 dX0_whoHolds_22
theorem s12_23 : aW d 12 23 [l0, .int a, l2, l3] S h Q = aW d 12 24 [l0, .int a, l2, l3] (.int a :: S) h Q := ax_iload_n mt12 dX0_whoHolds_23 rfl
theorem s12_24 : aW d 12 24 L (.int b :: .int a :: S) h Q = (if b < a then aW d 12 43 L S h Q else aW d 12 27 L S h Q) := ax_icmp_gt mt12 dX0_whoHolds_24 (by decide)
theorem s12_27 : aW d 12 27 [l0, .int a, l2, l3] S h Q = aW d 12 28 [l0, .int a, l2, l3] (.int a :: S) h Q := ax_iload_n mt12 dX0_whoHolds_27 rfl
theorem s12_28 : aW d 12 28 [.ref o, l1, l2, l3] S h Q = aW d 12 29 [.ref o, l1, l2, l3] (.ref o :: S) h Q := ax_aload_n mt12 dX0_whoHolds_28 rfl
theorem s12_29 (hT : gT h o = some (3, 5)) : aW d 12 29 L (.ref o :: S) h Q = (isRf (gR h o 3) = true ∧ aW d 12 32 L (gR h o 3 :: S) h Q) := ax_geta mt12 dX0_whoHolds_29 (by decide) ft_9 fk_9 hT
theorem s12_32 : aW d 12 32 [l0, l1, l2, .int a] S h Q = aW d 12 33 [l0, l1, l2, .int a] (.int a :: S) h Q := ax_iload_n mt12 dX0_whoHolds_32 rfl
theorem s12_33 : aW d 12 33 L (.int a :: .ref o :: S) h Q = (inb a (aI h o) ∧ aW d 12 34 L (.int (gI h o a.toNatClampNeg) :: S) h Q) := ax_iald mt12 dX0_whoHolds_33
theorem s12_34 : aW d 12 34 L (.int b :: .int a :: S) h Q = aW d 12 35 L (.int (a - b) :: S) h Q := ax_isub mt12 dX0_whoHolds_34
theorem s12_35 : aW d 12 35 [l0, l1, .ref o, l3] S h Q = aW d 12 36 [l0, l1, .ref o, l3] (.ref o :: S) h Q := ax_aload_n mt12 dX0_whoHolds_35 rfl
theorem s12_36 : aW d 12 36 [l0, l1, l2, .int a] S h Q = aW d 12 37 [l0, l1, l2, .int a] (.int a :: S) h Q := ax_iload_n mt12 dX0_whoHolds_36 rfl
theorem s12_37 : aW d 12 37 L (.int a :: .ref o :: S) h Q = (inb a (aI h o) ∧ aW d 12 38 L (.int (gI h o a.toNatClampNeg) :: S) h Q) := ax_iald mt12 dX0_whoHolds_37
theorem s12_38 : aW d 12 38 L (.int b :: .int a :: S) h Q = (if a < b then aW d 12 41 L S h Q else aW d 12 43 L S h Q) := ax_icmp_ge mt12 dX0_whoHolds_38 (by decide)
theorem s12_41 : aW d 12 41 [l0, l1, l2, .int a] S h Q = aW d 12 42 [l0, l1, l2, .int a] (.int a :: S) h Q := ax_iload_n mt12 dX0_whoHolds_41 rfl
theorem s12_42 : aW d 12 42 L [.int a] h Q = Q (some (.int a)) h := ax_reti mt12 dX0_whoHolds_42 rfl
theorem s12_43 : aW d 12 43 [l0, l1, l2, .int a] S h Q = aW d 12 46 [l0, l1, l2, .int (a + nI 1)] S h Q := ax_iinc mt12 dX0_whoHolds_43 rfl ic_1 rfl
theorem s12_46 : aW d 12 46 L S h Q = aW d 12 2 L S h Q := ax_goto mt12 dX0_whoHolds_46 (by decide)
theorem s12_49 : aW d 12 49 L S h Q = aW d 12 50 L (.int ((-1)) :: S) h Q := ax_iconst mt12 dX0_whoHolds_49 ic_m1
theorem s12_50 : aW d 12 50 L [.int a] h Q = Q (some (.int a)) h := ax_reti mt12 dX0_whoHolds_50 rfl
-- method 13: BufferRoom$Heights.<init>()V
theorem dX1_init_0 : decode cX1_init 0 = .ok (.aload_n 0, 1) := by decide +kernel
theorem dX1_init_1 : decode cX1_init 1 = .ok (.invokespecial 3, 3) := by decide +kernel
theorem dX1_init_4 : decode cX1_init 4 = .ok (.aload_n 0, 1) := by decide +kernel
theorem dX1_init_5 : decode cX1_init 5 = .ok (.bipush 6, 2) := by decide +kernel
theorem dX1_init_7 : decode cX1_init 7 = .ok (.newarray .int, 2) := by decide +kernel
theorem dX1_init_9 : decode cX1_init 9 = .ok (.putfield 9, 3) := by decide +kernel
theorem dX1_init_12 : decode cX1_init 12 = .ok (.aload_n 0, 1) := by decide +kernel
theorem dX1_init_13 : decode cX1_init 13 = .ok (.bipush 6, 2) := by decide +kernel
theorem dX1_init_15 : decode cX1_init 15 = .ok (.newarray .int, 2) := by decide +kernel
theorem dX1_init_17 : decode cX1_init 17 = .ok (.putfield 15, 3) := by decide +kernel
theorem dX1_init_20 : decode cX1_init 20 = .ok (.return_, 1) := by decide +kernel
theorem s13_0 : aW d 13 0 [.ref o] S h Q = aW d 13 1 [.ref o] (.ref o :: S) h Q := ax_aload_n mt13 dX1_init_0 rfl
theorem s13_1 : aW (d + 1) 13 1 L (.ref o :: []) h Q = aW (d + 1) 13 4 L [] h Q := ax_obj mt13 dX1_init_1 (by decide) ct_4099 (Nat.le_of_ble_eq_true rfl)
theorem s13_4 : aW d 13 4 [.ref o] S h Q = aW d 13 5 [.ref o] (.ref o :: S) h Q := ax_aload_n mt13 dX1_init_4 rfl
theorem s13_5 : aW d 13 5 L S h Q = aW d 13 7 L (.int (nI 6) :: S) h Q := ax_bipush mt13 dX1_init_5 bp_6
theorem s13_7 (hn : ¬ a < 0 ∧ a.toNatClampNeg ≤ 100000) : aW d 13 7 L (.int a :: S) h Q = aW d 13 9 L (.ref h.1.length :: S) (nO h 0 a.toNatClampNeg) Q := ax_newi mt13 dX1_init_7 hn
theorem s13_9 (hT : gT h o = some (4, 6)) : aW d 13 9 L (.ref o2 :: .ref o :: S) h Q = aW d 13 12 L S (pR h o 3 (.ref o2)) Q := ax_puta mt13 dX1_init_9 (by decide) ft_4105 (fun q => q.2 ⟨rfl, rfl, rfl⟩) fp_4105 hT
theorem s13_12 : aW d 13 12 [.ref o] S h Q = aW d 13 13 [.ref o] (.ref o :: S) h Q := ax_aload_n mt13 dX1_init_12 rfl
theorem s13_13 : aW d 13 13 L S h Q = aW d 13 15 L (.int (nI 6) :: S) h Q := ax_bipush mt13 dX1_init_13 bp_6
theorem s13_15 (hn : ¬ a < 0 ∧ a.toNatClampNeg ≤ 100000) : aW d 13 15 L (.int a :: S) h Q = aW d 13 17 L (.ref h.1.length :: S) (nO h 0 a.toNatClampNeg) Q := ax_newi mt13 dX1_init_15 hn
theorem s13_17 (hT : gT h o = some (4, 6)) : aW d 13 17 L (.ref o2 :: .ref o :: S) h Q = aW d 13 20 L S (pR h o 5 (.ref o2)) Q := ax_puta mt13 dX1_init_17 (by decide) ft_4111 (fun q => q.2 ⟨rfl, rfl, rfl⟩) fp_4111 hT
theorem s13_20 : aW d 13 20 L [] h Q = Q none h := ax_retv mt13 dX1_init_20 rfl
-- method 14: BufferRoom$Heights.find(LBufferRoom$Timeline;LBufferRoom$Sheet;)I
theorem dX1_find_0 : decode cX1_find 0 = .ok (.aload_n 0, 1) := by decide +kernel
theorem dX1_find_1 : decode cX1_find 1 = .ok (.aload_n 1, 1) := by decide +kernel
theorem dX1_find_2 : decode cX1_find 2 = .ok (.putfield 18, 3) := by decide +kernel
theorem dX1_find_5 : decode cX1_find 5 = .ok (.aload_n 0, 1) := by decide +kernel
theorem dX1_find_6 : decode cX1_find 6 = .ok (.aload_n 2, 1) := by decide +kernel
theorem dX1_find_7 : decode cX1_find 7 = .ok (.putfield 22, 3) := by decide +kernel
theorem dX1_find_10 : decode cX1_find 10 = .ok (.aload_n 0, 1) := by decide +kernel
theorem dX1_find_11 : decode cX1_find 11 = .ok (.aload_n 0, 1) := by decide +kernel
theorem dX1_find_12 : decode cX1_find 12 = .ok (.getfield 22, 3) := by decide +kernel
theorem dX1_find_15 : decode cX1_find 15 = .ok (.getfield 26, 3) := by decide +kernel
theorem dX1_find_18 : decode cX1_find 18 = .ok (.putfield 32, 3) := by decide +kernel
theorem dX1_find_21 : decode cX1_find 21 = .ok (.aload_n 0, 1) := by decide +kernel
theorem dX1_find_22 : decode cX1_find 22 = .ok (.ldc 35, 2) := by decide +kernel
theorem dX1_find_24 : decode cX1_find 24 = .ok (.putfield 36, 3) := by decide +kernel
theorem dX1_find_27 : decode cX1_find 27 = .ok (.aload_n 0, 1) := by decide +kernel
theorem dX1_find_28 : decode cX1_find 28 = .ok (.iconst 0, 1) := by decide +kernel
theorem dX1_find_29 : decode cX1_find 29 = .ok (.iconst 0, 1) := by decide +kernel
theorem dX1_find_30 : decode cX1_find 30 = .ok (.iconst 0, 1) := by decide +kernel
theorem dX1_find_31 : decode cX1_find 31 = .ok (.invokevirtual 39, 3) := by decide +kernel
theorem dX1_find_34 : decode cX1_find 34 = .ok (.aload_n 0, 1) := by decide +kernel
theorem dX1_find_35 : decode cX1_find 35 = .ok (.getfield 36, 3) := by decide +kernel
theorem dX1_find_38 : decode cX1_find 38 = .ok (.ireturn, 1) := by decide +kernel
theorem s14_0 : aW d 14 0 [.ref o, l1, l2] S h Q = aW d 14 1 [.ref o, l1, l2] (.ref o :: S) h Q := ax_aload_n mt14 dX1_find_0 rfl
theorem s14_1 : aW d 14 1 [l0, .ref o, l2] S h Q = aW d 14 2 [l0, .ref o, l2] (.ref o :: S) h Q := ax_aload_n mt14 dX1_find_1 rfl
theorem s14_2 (hT : gT h o = some (4, 6)) : aW d 14 2 L (.ref o2 :: .ref o :: S) h Q = aW d 14 5 L S (pR h o 0 (.ref o2)) Q := ax_puta mt14 dX1_find_2 (by decide) ft_4114 (fun q => fn_4114 q.1) fp_4114 hT
theorem s14_5 : aW d 14 5 [.ref o, l1, l2] S h Q = aW d 14 6 [.ref o, l1, l2] (.ref o :: S) h Q := ax_aload_n mt14 dX1_find_5 rfl
theorem s14_6 : aW d 14 6 [l0, l1, .ref o] S h Q = aW d 14 7 [l0, l1, .ref o] (.ref o :: S) h Q := ax_aload_n mt14 dX1_find_6 rfl
theorem s14_7 (hT : gT h o = some (4, 6)) : aW d 14 7 L (.ref o2 :: .ref o :: S) h Q = aW d 14 10 L S (pR h o 1 (.ref o2)) Q := ax_puta mt14 dX1_find_7 (by decide) ft_4118 (fun q => fn_4118 q.1) fp_4118 hT
theorem s14_10 : aW d 14 10 [.ref o, l1, l2] S h Q = aW d 14 11 [.ref o, l1, l2] (.ref o :: S) h Q := ax_aload_n mt14 dX1_find_10 rfl
theorem s14_11 : aW d 14 11 [.ref o, l1, l2] S h Q = aW d 14 12 [.ref o, l1, l2] (.ref o :: S) h Q := ax_aload_n mt14 dX1_find_11 rfl
theorem s14_12 (hT : gT h o = some (4, 6)) : aW d 14 12 L (.ref o :: S) h Q = (isRf (gR h o 1) = true ∧ aW d 14 15 L (gR h o 1 :: S) h Q) := ax_geta mt14 dX1_find_12 (by decide) ft_4118 fk_4118 hT
theorem s14_15 (hT : gT h o = some (11, 3)) : aW d 14 15 L (.ref o :: S) h Q = aW d 14 18 L (.int (gI h o 1) :: S) h Q := ax_geti mt14 dX1_find_15 (by decide) ft_4122 fk_4122 hT
theorem s14_18 (hT : gT h o = some (4, 6)) : aW d 14 18 L (.int a :: .ref o :: S) h Q = aW d 14 21 L S (pI h o 4 a) Q := ax_puti mt14 dX1_find_18 (by decide) ft_4128 (fun q => fn_4128 q.1) fp_4128 hT
theorem s14_21 : aW d 14 21 [.ref o, l1, l2] S h Q = aW d 14 22 [.ref o, l1, l2] (.ref o :: S) h Q := ax_aload_n mt14 dX1_find_21 rfl
theorem s14_22 : aW d 14 22 L S h Q = aW d 14 24 L (.int 2147483647 :: S) h Q := ax_ldc mt14 dX1_find_22 (by decide) kt_4131
theorem s14_24 (hT : gT h o = some (4, 6)) : aW d 14 24 L (.int a :: .ref o :: S) h Q = aW d 14 27 L S (pI h o 2 a) Q := ax_puti mt14 dX1_find_24 (by decide) ft_4132 (fun q => fn_4132 q.1) fp_4132 hT
theorem s14_27 : aW d 14 27 [.ref o, l1, l2] S h Q = aW d 14 28 [.ref o, l1, l2] (.ref o :: S) h Q := ax_aload_n mt14 dX1_find_27 rfl
theorem s14_28 : aW d 14 28 L S h Q = aW d 14 29 L (.int (nI 0) :: S) h Q := ax_iconst mt14 dX1_find_28 ic_0
theorem s14_29 : aW d 14 29 L S h Q = aW d 14 30 L (.int (nI 0) :: S) h Q := ax_iconst mt14 dX1_find_29 ic_0
theorem s14_30 : aW d 14 30 L S h Q = aW d 14 31 L (.int (nI 0) :: S) h Q := ax_iconst mt14 dX1_find_30 ic_0
theorem s14_31 (hT : gT h o = some (4, 6)) : aW (d + 1) 14 31 L (.int x2 :: .int x1 :: .int x0 :: .ref o :: []) h Q = aM d 15 (.ref o :: [.int x0, .int x1, .int x2]) h (fun v h1 => aW (d + 1) 14 34 L (ab_ps v []) h1 Q) := ax_invv mt14 dX1_find_31 (by decide) ct_4135 (.inl rfl) mt15 ⟨⟨Nat.le_of_ble_eq_true rfl, Nat.le_of_ble_eq_true rfl, Nat.le_of_ble_eq_true rfl⟩, rfl, rfl, rfl⟩ hT
theorem s14_34 : aW d 14 34 [.ref o, l1, l2] S h Q = aW d 14 35 [.ref o, l1, l2] (.ref o :: S) h Q := ax_aload_n mt14 dX1_find_34 rfl
theorem s14_35 (hT : gT h o = some (4, 6)) : aW d 14 35 L (.ref o :: S) h Q = aW d 14 38 L (.int (gI h o 2) :: S) h Q := ax_geti mt14 dX1_find_35 (by decide) ft_4132 fk_4132 hT
theorem s14_38 : aW d 14 38 L [.int a] h Q = Q (some (.int a)) h := ax_reti mt14 dX1_find_38 rfl
-- method 15: BufferRoom$Heights.extend(III)V
theorem dX1_extend_0 : decode cX1_extend 0 = .ok (.iload_n 3, 1) := by decide +kernel
theorem dX1_extend_1 : decode cX1_extend 1 = .ok (.aload_n 0, 1) := by decide +kernel
theorem dX1_extend_2 : decode cX1_extend 2 = .ok (.getfield 36, 3) := by decide +kernel
theorem dX1_extend_5 : decode cX1_extend 5 = .ok (.if_icmp .lt 4, 3) := by decide +kernel
theorem dX1_extend_8 : decode cX1_extend 8 = .ok (.return_, 1) := by decide +kernel
theorem dX1_extend_9 : decode cX1_extend 9 = .ok (.iload_n 1, 1) := by decide +kernel
theorem dX1_extend_10 : decode cX1_extend 10 = .ok (.aload_n 0, 1) := by decide +kernel
theorem dX1_extend_11 : decode cX1_extend 11 = .ok (.getfield 22, 3) := by decide +kernel
theorem dX1_extend_14 : decode cX1_extend 14 = .ok (.getfield 26, 3) := by decide +kernel
theorem dX1_extend_17 : decode cX1_extend 17 = .ok (.if_icmp .lt 29, 3) := by decide +kernel
theorem dX1_extend_20 : decode cX1_extend 20 = .ok (.aload_n 0, 1) := by decide +kernel
theorem dX1_extend_21 : decode cX1_extend 21 = .ok (.iload_n 3, 1) := by decide +kernel
theorem dX1_extend_22 : decode cX1_extend 22 = .ok (.putfield 36, 3) := by decide +kernel
theorem dX1_extend_25 : decode cX1_extend 25 = .ok (.aload_n 0, 1) := by decide +kernel
theorem dX1_extend_26 : decode cX1_extend 26 = .ok (.getfield 9, 3) := by decide +kernel
theorem dX1_extend_29 : decode cX1_extend 29 = .ok (.iconst 0, 1) := by decide +kernel
theorem dX1_extend_30 : decode cX1_extend 30 = .ok (.aload_n 0, 1) := by decide +kernel
theorem dX1_extend_31 : decode cX1_extend 31 = .ok (.getfield 15, 3) := by decide +kernel
theorem dX1_extend_34 : decode cX1_extend 34 = .ok (.iconst 0, 1) := by decide +kernel
theorem dX1_extend_35 : decode cX1_extend 35 = .ok (.aload_n 0, 1) := by decide +kernel
theorem dX1_extend_36 : decode cX1_extend 36 = .ok (.getfield 22, 3) := by decide +kernel
theorem dX1_extend_39 : decode cX1_extend 39 = .ok (.getfield 26, 3) := by decide +kernel
theorem dX1_extend_42 : decode cX1_extend 42 = .ok (.invokestatic 43, 3) := by decide +kernel
theorem dX1_extend_45 : decode cX1_extend 45 = .ok (.return_, 1) := by decide +kernel
theorem dX1_extend_46 : decode cX1_extend 46 = .ok (.iconst 0, 1) := by decide +kernel
theorem dX1_extend_47 : decode cX1_extend 47 = .ok (.istore 4, 2) := by decide +kernel
theorem dX1_extend_49 : decode cX1_extend 49 = .ok (.iload 4, 2) := by decide +kernel
theorem dX1_extend_51 : decode cX1_extend 51 = .ok (.aload_n 0, 1) := by decide +kernel
theorem dX1_extend_52 : decode cX1_extend 52 = .ok (.getfield 22, 3) := by decide +kernel
theorem dX1_extend_55 : decode cX1_extend 55 = .ok (.getfield 26, 3) := by decide +kernel
theorem dX1_extend_58 : decode cX1_extend 58 = .ok (.if_icmp .ge 27, 3) := by decide +kernel
theorem dX1_extend_61 : decode cX1_extend 61 = .ok (.iload_n 2, 1) := by decide +kernel
theorem dX1_extend_62 : decode cX1_extend 62 = .ok (.iload 4, 2) := by decide +kernel
theorem dX1_extend_64 : decode cX1_extend 64 = .ok (.ishr, 1) := by decide +kernel
theorem dX1_extend_65 : decode cX1_extend 65 = .ok (.iconst 1, 1) := by decide +kernel
theorem dX1_extend_66 : decode cX1_extend 66 = .ok (.iand, 1) := by decide +kernel
theorem dX1_extend_67 : decode cX1_extend 67 = .ok (.ifCond .ne 12, 3) := by decide +kernel
theorem dX1_extend_70 : decode cX1_extend 70 = .ok (.aload_n 0, 1) := by decide +kernel
theorem dX1_extend_71 : decode cX1_extend 71 = .ok (.iload 4, 2) := by decide +kernel
theorem dX1_extend_73 : decode cX1_extend 73 = .ok (.iload_n 1, 1) := by decide +kernel
theorem dX1_extend_74 : decode cX1_extend 74 = .ok (.iload_n 2, 1) := by decide +kernel
theorem dX1_extend_75 : decode cX1_extend 75 = .ok (.iload_n 3, 1) := by decide +kernel
theorem dX1_extend_76 : decode cX1_extend 76 = .ok (.invokevirtual 49, 3) := by decide +kernel
theorem dX1_extend_79 : decode cX1_extend 79 = .ok (.iinc 4 1, 3) := by decide +kernel
theorem dX1_extend_82 : decode cX1_extend 82 = .ok (.goto (-33), 3) := by decide +kernel
theorem dX1_extend_85 : decode cX1_extend 85 = .ok (.return_, 1) := by decide +kernel
theorem s15_0 : aW d 15 0 [l0, l1, l2, .int a, l4] S h Q = aW d 15 1 [l0, l1, l2, .int a, l4] (.int a :: S) h Q := ax_iload_n mt15 dX1_extend_0 rfl
theorem s15_1 : aW d 15 1 [.ref o, l1, l2, l3, l4] S h Q = aW d 15 2 [.ref o, l1, l2, l3, l4] (.ref o :: S) h Q := ax_aload_n mt15 dX1_extend_1 rfl
theorem s15_2 (hT : gT h o = some (4, 6)) : aW d 15 2 L (.ref o :: S) h Q = aW d 15 5 L (.int (gI h o 2) :: S) h Q := ax_geti mt15 dX1_extend_2 (by decide) ft_4132 fk_4132 hT
theorem s15_5 : aW d 15 5 L (.int b :: .int a :: S) h Q = (if a < b then aW d 15 9 L S h Q else aW d 15 8 L S h Q) := ax_icmp_lt mt15 dX1_extend_5 (by decide)
theorem s15_8 : aW d 15 8 L [] h Q = Q none h := ax_retv mt15 dX1_extend_8 rfl
theorem s15_9 : aW d 15 9 [l0, .int a, l2, l3, l4] S h Q = aW d 15 10 [l0, .int a, l2, l3, l4] (.int a :: S) h Q := ax_iload_n mt15 dX1_extend_9 rfl
theorem s15_10 : aW d 15 10 [.ref o, l1, l2, l3, l4] S h Q = aW d 15 11 [.ref o, l1, l2, l3, l4] (.ref o :: S) h Q := ax_aload_n mt15 dX1_extend_10 rfl
theorem s15_11 (hT : gT h o = some (4, 6)) : aW d 15 11 L (.ref o :: S) h Q = (isRf (gR h o 1) = true ∧ aW d 15 14 L (gR h o 1 :: S) h Q) := ax_geta mt15 dX1_extend_11 (by decide) ft_4118 fk_4118 hT
theorem s15_14 (hT : gT h o = some (11, 3)) : aW d 15 14 L (.ref o :: S) h Q = aW d 15 17 L (.int (gI h o 1) :: S) h Q := ax_geti mt15 dX1_extend_14 (by decide) ft_4122 fk_4122 hT
theorem s15_17 : aW d 15 17 L (.int b :: .int a :: S) h Q = (if a < b then aW d 15 46 L S h Q else aW d 15 20 L S h Q) := ax_icmp_lt mt15 dX1_extend_17 (by decide)
theorem s15_20 : aW d 15 20 [.ref o, l1, l2, l3, l4] S h Q = aW d 15 21 [.ref o, l1, l2, l3, l4] (.ref o :: S) h Q := ax_aload_n mt15 dX1_extend_20 rfl
theorem s15_21 : aW d 15 21 [l0, l1, l2, .int a, l4] S h Q = aW d 15 22 [l0, l1, l2, .int a, l4] (.int a :: S) h Q := ax_iload_n mt15 dX1_extend_21 rfl
theorem s15_22 (hT : gT h o = some (4, 6)) : aW d 15 22 L (.int a :: .ref o :: S) h Q = aW d 15 25 L S (pI h o 2 a) Q := ax_puti mt15 dX1_extend_22 (by decide) ft_4132 (fun q => fn_4132 q.1) fp_4132 hT
theorem s15_25 : aW d 15 25 [.ref o, l1, l2, l3, l4] S h Q = aW d 15 26 [.ref o, l1, l2, l3, l4] (.ref o :: S) h Q := ax_aload_n mt15 dX1_extend_25 rfl
theorem s15_26 (hT : gT h o = some (4, 6)) : aW d 15 26 L (.ref o :: S) h Q = (isRf (gR h o 3) = true ∧ aW d 15 29 L (gR h o 3 :: S) h Q) := ax_geta mt15 dX1_extend_26 (by decide) ft_4105 fk_4105 hT
theorem s15_29 : aW d 15 29 L S h Q = aW d 15 30 L (.int (nI 0) :: S) h Q := ax_iconst mt15 dX1_extend_29 ic_0
theorem s15_30 : aW d 15 30 [.ref o, l1, l2, l3, l4] S h Q = aW d 15 31 [.ref o, l1, l2, l3, l4] (.ref o :: S) h Q := ax_aload_n mt15 dX1_extend_30 rfl
theorem s15_31 (hT : gT h o = some (4, 6)) : aW d 15 31 L (.ref o :: S) h Q = (isRf (gR h o 5) = true ∧ aW d 15 34 L (gR h o 5 :: S) h Q) := ax_geta mt15 dX1_extend_31 (by decide) ft_4111 fk_4111 hT
theorem s15_34 : aW d 15 34 L S h Q = aW d 15 35 L (.int (nI 0) :: S) h Q := ax_iconst mt15 dX1_extend_34 ic_0
theorem s15_35 : aW d 15 35 [.ref o, l1, l2, l3, l4] S h Q = aW d 15 36 [.ref o, l1, l2, l3, l4] (.ref o :: S) h Q := ax_aload_n mt15 dX1_extend_35 rfl
theorem s15_36 (hT : gT h o = some (4, 6)) : aW d 15 36 L (.ref o :: S) h Q = (isRf (gR h o 1) = true ∧ aW d 15 39 L (gR h o 1 :: S) h Q) := ax_geta mt15 dX1_extend_36 (by decide) ft_4118 fk_4118 hT
theorem s15_39 (hT : gT h o = some (11, 3)) : aW d 15 39 L (.ref o :: S) h Q = aW d 15 42 L (.int (gI h o 1) :: S) h Q := ax_geti mt15 dX1_extend_39 (by decide) ft_4122 fk_4122 hT
theorem s15_42 {n0 n1 : Nat} (hT0 : gT h o = some (0, n0)) (hT1 : gT h o2 = some (0, n1)) (hc : ¬ x1 < 0 ∧ ¬ x2 < 0 ∧ ¬ x3 < 0 ∧ x1.toNatClampNeg + x3.toNatClampNeg ≤ n0 ∧ x2.toNatClampNeg + x3.toNatClampNeg ≤ n1) : aW (d + 1) 15 42 L (.int x3 :: .int x2 :: .ref o2 :: .int x1 :: .ref o :: []) h Q = aW (d + 1) 15 45 L [] (pA h o2 (va_cpy (gI h o) (gI h o2) x1.toNatClampNeg x2.toNatClampNeg x3.toNatClampNeg)) Q := ax_acpy mt15 dX1_extend_42 (by decide) ct_4139 (Nat.le_of_ble_eq_true rfl) hT0 hT1 hc
theorem s15_45 : aW d 15 45 L [] h Q = Q none h := ax_retv mt15 dX1_extend_45 rfl
theorem s15_46 : aW d 15 46 L S h Q = aW d 15 47 L (.int (nI 0) :: S) h Q := ax_iconst mt15 dX1_extend_46 ic_0
theorem s15_47 : aW d 15 47 [l0, l1, l2, l3, l4] (.int a :: S) h Q = aW d 15 49 [l0, l1, l2, l3, .int a] S h Q := ax_istore mt15 dX1_extend_47 (Nat.le_of_ble_eq_true rfl) rfl
theorem s15_49 : aW d 15 49 [l0, l1, l2, l3, .int a] S h Q = aW d 15 51 [l0, l1, l2, l3, .int a] (.int a :: S) h Q := ax_iload mt15 dX1_extend_49 rfl
theorem s15_51 : aW d 15 51 [.ref o, l1, l2, l3, l4] S h Q = aW d 15 52 [.ref o, l1, l2, l3, l4] (.ref o :: S) h Q := ax_aload_n mt15 dX1_extend_51 rfl
theorem s15_52 (hT : gT h o = some (4, 6)) : aW d 15 52 L (.ref o :: S) h Q = (isRf (gR h o 1) = true ∧ aW d 15 55 L (gR h o 1 :: S) h Q) := ax_geta mt15 dX1_extend_52 (by decide) ft_4118 fk_4118 hT
theorem s15_55 (hT : gT h o = some (11, 3)) : aW d 15 55 L (.ref o :: S) h Q = aW d 15 58 L (.int (gI h o 1) :: S) h Q := ax_geti mt15 dX1_extend_55 (by decide) ft_4122 fk_4122 hT
theorem s15_58 : aW d 15 58 L (.int b :: .int a :: S) h Q = (if a < b then aW d 15 61 L S h Q else aW d 15 85 L S h Q) := ax_icmp_ge mt15 dX1_extend_58 (by decide)
theorem s15_61 : aW d 15 61 [l0, l1, .int a, l3, l4] S h Q = aW d 15 62 [l0, l1, .int a, l3, l4] (.int a :: S) h Q := ax_iload_n mt15 dX1_extend_61 rfl
theorem s15_62 : aW d 15 62 [l0, l1, l2, l3, .int a] S h Q = aW d 15 64 [l0, l1, l2, l3, .int a] (.int a :: S) h Q := ax_iload mt15 dX1_extend_62 rfl
theorem s15_64 : aW d 15 64 L (.int b :: .int a :: S) h Q = aW d 15 65 L (.int (a >>> (b &&& 31)) :: S) h Q := ax_ishr mt15 dX1_extend_64
theorem s15_65 : aW d 15 65 L S h Q = aW d 15 66 L (.int (nI 1) :: S) h Q := ax_iconst mt15 dX1_extend_65 ic_1
theorem s15_66 : aW d 15 66 L (.int b :: .int a :: S) h Q = aW d 15 67 L (.int (a &&& b) :: S) h Q := ax_iand mt15 dX1_extend_66
theorem s15_67 : aW d 15 67 L (.int a :: S) h Q = (if a = 0 then aW d 15 70 L S h Q else aW d 15 79 L S h Q) := ax_if_ne mt15 dX1_extend_67 (by decide)
theorem s15_70 : aW d 15 70 [.ref o, l1, l2, l3, l4] S h Q = aW d 15 71 [.ref o, l1, l2, l3, l4] (.ref o :: S) h Q := ax_aload_n mt15 dX1_extend_70 rfl
theorem s15_71 : aW d 15 71 [l0, l1, l2, l3, .int a] S h Q = aW d 15 73 [l0, l1, l2, l3, .int a] (.int a :: S) h Q := ax_iload mt15 dX1_extend_71 rfl
theorem s15_73 : aW d 15 73 [l0, .int a, l2, l3, l4] S h Q = aW d 15 74 [l0, .int a, l2, l3, l4] (.int a :: S) h Q := ax_iload_n mt15 dX1_extend_73 rfl
theorem s15_74 : aW d 15 74 [l0, l1, .int a, l3, l4] S h Q = aW d 15 75 [l0, l1, .int a, l3, l4] (.int a :: S) h Q := ax_iload_n mt15 dX1_extend_74 rfl
theorem s15_75 : aW d 15 75 [l0, l1, l2, .int a, l4] S h Q = aW d 15 76 [l0, l1, l2, .int a, l4] (.int a :: S) h Q := ax_iload_n mt15 dX1_extend_75 rfl
theorem s15_76 (hT : gT h o = some (4, 6)) : aW (d + 1) 15 76 L (.int x3 :: .int x2 :: .int x1 :: .int x0 :: .ref o :: []) h Q = aM d 16 (.ref o :: [.int x0, .int x1, .int x2, .int x3]) h (fun v h1 => aW (d + 1) 15 79 L (ab_ps v []) h1 Q) := ax_invv mt15 dX1_extend_76 (by decide) ct_4145 (.inl rfl) mt16 ⟨⟨Nat.le_of_ble_eq_true rfl, Nat.le_of_ble_eq_true rfl, Nat.le_of_ble_eq_true rfl⟩, rfl, rfl, rfl⟩ hT
theorem s15_79 : aW d 15 79 [l0, l1, l2, l3, .int a] S h Q = aW d 15 82 [l0, l1, l2, l3, .int (a + nI 1)] S h Q := ax_iinc mt15 dX1_extend_79 rfl ic_1 rfl
theorem s15_82 : aW d 15 82 L S h Q = aW d 15 49 L S h Q := ax_goto mt15 dX1_extend_82 (by decide)
theorem s15_85 : aW d 15 85 L [] h Q = Q none h := ax_retv mt15 dX1_extend_85 rfl
-- method 16: BufferRoom$Heights.put(IIII)V
theorem dX1_put_0 : decode cX1_put 0 = .ok (.aload_n 0, 1) := by decide +kernel
theorem dX1_put_1 : decode cX1_put 1 = .ok (.getfield 9, 3) := by decide +kernel
theorem dX1_put_4 : decode cX1_put 4 = .ok (.iload_n 1, 1) := by decide +kernel
theorem dX1_put_5 : decode cX1_put 5 = .ok (.aload_n 0, 1) := by decide +kernel
theorem dX1_put_6 : decode cX1_put 6 = .ok (.iload_n 1, 1) := by decide +kernel
theorem dX1_put_7 : decode cX1_put 7 = .ok (.iload_n 3, 1) := by decide +kernel
theorem dX1_put_8 : decode cX1_put 8 = .ok (.invokevirtual 53, 3) := by decide +kernel
theorem dX1_put_11 : decode cX1_put 11 = .ok (.iastore, 1) := by decide +kernel
theorem dX1_put_12 : decode cX1_put 12 = .ok (.aload_n 0, 1) := by decide +kernel
theorem dX1_put_13 : decode cX1_put 13 = .ok (.iload_n 2, 1) := by decide +kernel
theorem dX1_put_14 : decode cX1_put 14 = .ok (.iconst 1, 1) := by decide +kernel
theorem dX1_put_15 : decode cX1_put 15 = .ok (.iadd, 1) := by decide +kernel
theorem dX1_put_16 : decode cX1_put 16 = .ok (.iload_n 3, 1) := by decide +kernel
theorem dX1_put_17 : decode cX1_put 17 = .ok (.iconst 1, 1) := by decide +kernel
theorem dX1_put_18 : decode cX1_put 18 = .ok (.iload_n 1, 1) := by decide +kernel
theorem dX1_put_19 : decode cX1_put 19 = .ok (.ishl, 1) := by decide +kernel
theorem dX1_put_20 : decode cX1_put 20 = .ok (.ior, 1) := by decide +kernel
theorem dX1_put_21 : decode cX1_put 21 = .ok (.iload 4, 2) := by decide +kernel
theorem dX1_put_23 : decode cX1_put 23 = .ok (.aload_n 0, 1) := by decide +kernel
theorem dX1_put_24 : decode cX1_put 24 = .ok (.iload_n 1, 1) := by decide +kernel
theorem dX1_put_25 : decode cX1_put 25 = .ok (.invokevirtual 57, 3) := by decide +kernel
theorem dX1_put_28 : decode cX1_put 28 = .ok (.invokestatic 61, 3) := by decide +kernel
theorem dX1_put_31 : decode cX1_put 31 = .ok (.invokevirtual 39, 3) := by decide +kernel
theorem dX1_put_34 : decode cX1_put 34 = .ok (.return_, 1) := by decide +kernel
theorem s16_0 : aW d 16 0 [.ref o, l1, l2, l3, l4] S h Q = aW d 16 1 [.ref o, l1, l2, l3, l4] (.ref o :: S) h Q := ax_aload_n mt16 dX1_put_0 rfl
theorem s16_1 (hT : gT h o = some (4, 6)) : aW d 16 1 L (.ref o :: S) h Q = (isRf (gR h o 3) = true ∧ aW d 16 4 L (gR h o 3 :: S) h Q) := ax_geta mt16 dX1_put_1 (by decide) ft_4105 fk_4105 hT
theorem s16_4 : aW d 16 4 [l0, .int a, l2, l3, l4] S h Q = aW d 16 5 [l0, .int a, l2, l3, l4] (.int a :: S) h Q := ax_iload_n mt16 dX1_put_4 rfl
theorem s16_5 : aW d 16 5 [.ref o, l1, l2, l3, l4] S h Q = aW d 16 6 [.ref o, l1, l2, l3, l4] (.ref o :: S) h Q := ax_aload_n mt16 dX1_put_5 rfl
theorem s16_6 : aW d 16 6 [l0, .int a, l2, l3, l4] S h Q = aW d 16 7 [l0, .int a, l2, l3, l4] (.int a :: S) h Q := ax_iload_n mt16 dX1_put_6 rfl
theorem s16_7 : aW d 16 7 [l0, l1, l2, .int a, l4] S h Q = aW d 16 8 [l0, l1, l2, .int a, l4] (.int a :: S) h Q := ax_iload_n mt16 dX1_put_7 rfl
theorem s16_8 (hT : gT h o = some (4, 6)) : aW (d + 1) 16 8 L (.int x1 :: .int x0 :: .ref o :: [.int y0, .ref q1]) h Q = aM d 18 (.ref o :: [.int x0, .int x1]) h (fun v h1 => aW (d + 1) 16 11 L (ab_ps v [.int y0, .ref q1]) h1 Q) := ax_invv mt16 dX1_put_8 (by decide) ct_4149 (.inl rfl) mt18 ⟨⟨Nat.le_of_ble_eq_true rfl, Nat.le_of_ble_eq_true rfl, Nat.le_of_ble_eq_true rfl⟩, rfl, rfl, rfl⟩ hT
theorem s16_11 : aW d 16 11 L (.int b :: .int a :: .ref o :: S) h Q = (inb a (aJ h o) ∧ aW d 16 12 L S (pI h o a.toNatClampNeg b) Q) := ax_iast mt16 dX1_put_11
theorem s16_12 : aW d 16 12 [.ref o, l1, l2, l3, l4] S h Q = aW d 16 13 [.ref o, l1, l2, l3, l4] (.ref o :: S) h Q := ax_aload_n mt16 dX1_put_12 rfl
theorem s16_13 : aW d 16 13 [l0, l1, .int a, l3, l4] S h Q = aW d 16 14 [l0, l1, .int a, l3, l4] (.int a :: S) h Q := ax_iload_n mt16 dX1_put_13 rfl
theorem s16_14 : aW d 16 14 L S h Q = aW d 16 15 L (.int (nI 1) :: S) h Q := ax_iconst mt16 dX1_put_14 ic_1
theorem s16_15 : aW d 16 15 L (.int b :: .int a :: S) h Q = aW d 16 16 L (.int (a + b) :: S) h Q := ax_iadd mt16 dX1_put_15
theorem s16_16 : aW d 16 16 [l0, l1, l2, .int a, l4] S h Q = aW d 16 17 [l0, l1, l2, .int a, l4] (.int a :: S) h Q := ax_iload_n mt16 dX1_put_16 rfl
theorem s16_17 : aW d 16 17 L S h Q = aW d 16 18 L (.int (nI 1) :: S) h Q := ax_iconst mt16 dX1_put_17 ic_1
theorem s16_18 : aW d 16 18 [l0, .int a, l2, l3, l4] S h Q = aW d 16 19 [l0, .int a, l2, l3, l4] (.int a :: S) h Q := ax_iload_n mt16 dX1_put_18 rfl
theorem s16_19 : aW d 16 19 L (.int b :: .int a :: S) h Q = aW d 16 20 L (.int (a <<< (b &&& 31)) :: S) h Q := ax_ishl mt16 dX1_put_19
theorem s16_20 : aW d 16 20 L (.int b :: .int a :: S) h Q = aW d 16 21 L (.int (a ||| b) :: S) h Q := ax_ior mt16 dX1_put_20
theorem s16_21 : aW d 16 21 [l0, l1, l2, l3, .int a] S h Q = aW d 16 23 [l0, l1, l2, l3, .int a] (.int a :: S) h Q := ax_iload mt16 dX1_put_21 rfl
theorem s16_23 : aW d 16 23 [.ref o, l1, l2, l3, l4] S h Q = aW d 16 24 [.ref o, l1, l2, l3, l4] (.ref o :: S) h Q := ax_aload_n mt16 dX1_put_23 rfl
theorem s16_24 : aW d 16 24 [l0, .int a, l2, l3, l4] S h Q = aW d 16 25 [l0, .int a, l2, l3, l4] (.int a :: S) h Q := ax_iload_n mt16 dX1_put_24 rfl
theorem s16_25 (hT : gT h o = some (4, 6)) : aW (d + 1) 16 25 L (.int x0 :: .ref o :: [.int y0, .int y1, .int y2, .ref q3]) h Q = aM d 17 (.ref o :: [.int x0]) h (fun v h1 => aW (d + 1) 16 28 L (ab_ps v [.int y0, .int y1, .int y2, .ref q3]) h1 Q) := ax_invv mt16 dX1_put_25 (by decide) ct_4153 (.inl rfl) mt17 ⟨⟨Nat.le_of_ble_eq_true rfl, Nat.le_of_ble_eq_true rfl, Nat.le_of_ble_eq_true rfl⟩, rfl, rfl, rfl⟩ hT
theorem s16_28 : aW (d + 1) 16 28 L (.int b :: .int a :: [.int y0, .int y1, .ref q2]) h Q = aW (d + 1) 16 31 L (.int (iMax a b) :: [.int y0, .int y1, .ref q2]) h Q := ax_max mt16 dX1_put_28 (by decide) ct_4157 (Nat.le_of_ble_eq_true rfl)
theorem s16_31 (hT : gT h o = some (4, 6)) : aW (d + 1) 16 31 L (.int x2 :: .int x1 :: .int x0 :: .ref o :: []) h Q = aM d 15 (.ref o :: [.int x0, .int x1, .int x2]) h (fun v h1 => aW (d + 1) 16 34 L (ab_ps v []) h1 Q) := ax_invv mt16 dX1_put_31 (by decide) ct_4135 (.inl rfl) mt15 ⟨⟨Nat.le_of_ble_eq_true rfl, Nat.le_of_ble_eq_true rfl, Nat.le_of_ble_eq_true rfl⟩, rfl, rfl, rfl⟩ hT
theorem s16_34 : aW d 16 34 L [] h Q = Q none h := ax_retv mt16 dX1_put_34 rfl
-- method 17: BufferRoom$Heights.upperEnd(I)I
theorem dX1_upperEnd_0 : decode cX1_upperEnd 0 = .ok (.aload_n 0, 1) := by decide +kernel
theorem dX1_upperEnd_1 : decode cX1_upperEnd 1 = .ok (.getfield 9, 3) := by decide +kernel
theorem dX1_upperEnd_4 : decode cX1_upperEnd 4 = .ok (.iload_n 1, 1) := by decide +kernel
theorem dX1_upperEnd_5 : decode cX1_upperEnd 5 = .ok (.iaload, 1) := by decide +kernel
theorem dX1_upperEnd_6 : decode cX1_upperEnd 6 = .ok (.aload_n 0, 1) := by decide +kernel
theorem dX1_upperEnd_7 : decode cX1_upperEnd 7 = .ok (.getfield 18, 3) := by decide +kernel
theorem dX1_upperEnd_10 : decode cX1_upperEnd 10 = .ok (.getfield 66, 3) := by decide +kernel
theorem dX1_upperEnd_13 : decode cX1_upperEnd 13 = .ok (.getfield 72, 3) := by decide +kernel
theorem dX1_upperEnd_16 : decode cX1_upperEnd 16 = .ok (.aload_n 0, 1) := by decide +kernel
theorem dX1_upperEnd_17 : decode cX1_upperEnd 17 = .ok (.getfield 22, 3) := by decide +kernel
theorem dX1_upperEnd_20 : decode cX1_upperEnd 20 = .ok (.getfield 76, 3) := by decide +kernel
theorem dX1_upperEnd_23 : decode cX1_upperEnd 23 = .ok (.iload_n 1, 1) := by decide +kernel
theorem dX1_upperEnd_24 : decode cX1_upperEnd 24 = .ok (.iaload, 1) := by decide +kernel
theorem dX1_upperEnd_25 : decode cX1_upperEnd 25 = .ok (.iaload, 1) := by decide +kernel
theorem dX1_upperEnd_26 : decode cX1_upperEnd 26 = .ok (.iadd, 1) := by decide +kernel
theorem dX1_upperEnd_27 : decode cX1_upperEnd 27 = .ok (.ireturn, 1) := by decide +kernel
theorem s17_0 : aW d 17 0 [.ref o, l1] S h Q = aW d 17 1 [.ref o, l1] (.ref o :: S) h Q := ax_aload_n mt17 dX1_upperEnd_0 rfl
theorem s17_1 (hT : gT h o = some (4, 6)) : aW d 17 1 L (.ref o :: S) h Q = (isRf (gR h o 3) = true ∧ aW d 17 4 L (gR h o 3 :: S) h Q) := ax_geta mt17 dX1_upperEnd_1 (by decide) ft_4105 fk_4105 hT
theorem s17_4 : aW d 17 4 [l0, .int a] S h Q = aW d 17 5 [l0, .int a] (.int a :: S) h Q := ax_iload_n mt17 dX1_upperEnd_4 rfl
theorem s17_5 : aW d 17 5 L (.int a :: .ref o :: S) h Q = (inb a (aI h o) ∧ aW d 17 6 L (.int (gI h o a.toNatClampNeg) :: S) h Q) := ax_iald mt17 dX1_upperEnd_5
theorem s17_6 : aW d 17 6 [.ref o, l1] S h Q = aW d 17 7 [.ref o, l1] (.ref o :: S) h Q := ax_aload_n mt17 dX1_upperEnd_6 rfl
theorem s17_7 (hT : gT h o = some (4, 6)) : aW d 17 7 L (.ref o :: S) h Q = (isRf (gR h o 0) = true ∧ aW d 17 10 L (gR h o 0 :: S) h Q) := ax_geta mt17 dX1_upperEnd_7 (by decide) ft_4114 fk_4114 hT
theorem s17_10 (hT : gT h o = some (12, 9)) : aW d 17 10 L (.ref o :: S) h Q = (isRf (gR h o 0) = true ∧ aW d 17 13 L (gR h o 0 :: S) h Q) := ax_geta mt17 dX1_upperEnd_10 (by decide) ft_4162 fk_4162 hT
theorem s17_13 (hT : gT h o = some (5, 4)) : aW d 17 13 L (.ref o :: S) h Q = (isRf (gR h o 1) = true ∧ aW d 17 16 L (gR h o 1 :: S) h Q) := ax_geta mt17 dX1_upperEnd_13 (by decide) ft_4168 fk_4168 hT
theorem s17_16 : aW d 17 16 [.ref o, l1] S h Q = aW d 17 17 [.ref o, l1] (.ref o :: S) h Q := ax_aload_n mt17 dX1_upperEnd_16 rfl
theorem s17_17 (hT : gT h o = some (4, 6)) : aW d 17 17 L (.ref o :: S) h Q = (isRf (gR h o 1) = true ∧ aW d 17 20 L (gR h o 1 :: S) h Q) := ax_geta mt17 dX1_upperEnd_17 (by decide) ft_4118 fk_4118 hT
theorem s17_20 (hT : gT h o = some (11, 3)) : aW d 17 20 L (.ref o :: S) h Q = (isRf (gR h o 2) = true ∧ aW d 17 23 L (gR h o 2 :: S) h Q) := ax_geta mt17 dX1_upperEnd_20 (by decide) ft_4172 fk_4172 hT
theorem s17_23 : aW d 17 23 [l0, .int a] S h Q = aW d 17 24 [l0, .int a] (.int a :: S) h Q := ax_iload_n mt17 dX1_upperEnd_23 rfl
theorem s17_24 : aW d 17 24 L (.int a :: .ref o :: S) h Q = (inb a (aI h o) ∧ aW d 17 25 L (.int (gI h o a.toNatClampNeg) :: S) h Q) := ax_iald mt17 dX1_upperEnd_24
theorem s17_25 : aW d 17 25 L (.int a :: .ref o :: S) h Q = (inb a (aI h o) ∧ aW d 17 26 L (.int (gI h o a.toNatClampNeg) :: S) h Q) := ax_iald mt17 dX1_upperEnd_25
theorem s17_26 : aW d 17 26 L (.int b :: .int a :: S) h Q = aW d 17 27 L (.int (a + b) :: S) h Q := ax_iadd mt17 dX1_upperEnd_26
theorem s17_27 : aW d 17 27 L [.int a] h Q = Q (some (.int a)) h := ax_reti mt17 dX1_upperEnd_27 rfl
-- method 18: BufferRoom$Heights.lowestPlace(II)I
theorem dX1_lowestPlace_0 : decode cX1_lowestPlace 0 = .ok (.iconst 0, 1) := by decide +kernel
theorem dX1_lowestPlace_1 : decode cX1_lowestPlace 1 = .ok (.istore_n 3, 1) := by decide +kernel
theorem dX1_lowestPlace_2 : decode cX1_lowestPlace 2 = .ok (.iconst 0, 1) := by decide +kernel
theorem dX1_lowestPlace_3 : decode cX1_lowestPlace 3 = .ok (.istore 4, 2) := by decide +kernel
theorem dX1_lowestPlace_5 : decode cX1_lowestPlace 5 = .ok (.iload 4, 2) := by decide +kernel
theorem dX1_lowestPlace_7 : decode cX1_lowestPlace 7 = .ok (.aload_n 0, 1) := by decide +kernel
theorem dX1_lowestPlace_8 : decode cX1_lowestPlace 8 = .ok (.getfield 22, 3) := by decide +kernel
theorem dX1_lowestPlace_11 : decode cX1_lowestPlace 11 = .ok (.getfield 26, 3) := by decide +kernel
theorem dX1_lowestPlace_14 : decode cX1_lowestPlace 14 = .ok (.if_icmp .ge 32, 3) := by decide +kernel
theorem dX1_lowestPlace_17 : decode cX1_lowestPlace 17 = .ok (.aload_n 0, 1) := by decide +kernel
theorem dX1_lowestPlace_18 : decode cX1_lowestPlace 18 = .ok (.iload_n 1, 1) := by decide +kernel
theorem dX1_lowestPlace_19 : decode cX1_lowestPlace 19 = .ok (.iload_n 3, 1) := by decide +kernel
theorem dX1_lowestPlace_20 : decode cX1_lowestPlace 20 = .ok (.iload_n 2, 1) := by decide +kernel
theorem dX1_lowestPlace_21 : decode cX1_lowestPlace 21 = .ok (.invokevirtual 79, 3) := by decide +kernel
theorem dX1_lowestPlace_24 : decode cX1_lowestPlace 24 = .ok (.istore 5, 2) := by decide +kernel
theorem dX1_lowestPlace_26 : decode cX1_lowestPlace 26 = .ok (.iload 5, 2) := by decide +kernel
theorem dX1_lowestPlace_28 : decode cX1_lowestPlace 28 = .ok (.ifCond .ge 5, 3) := by decide +kernel
theorem dX1_lowestPlace_31 : decode cX1_lowestPlace 31 = .ok (.iload_n 3, 1) := by decide +kernel
theorem dX1_lowestPlace_32 : decode cX1_lowestPlace 32 = .ok (.ireturn, 1) := by decide +kernel
theorem dX1_lowestPlace_33 : decode cX1_lowestPlace 33 = .ok (.aload_n 0, 1) := by decide +kernel
theorem dX1_lowestPlace_34 : decode cX1_lowestPlace 34 = .ok (.iload 5, 2) := by decide +kernel
theorem dX1_lowestPlace_36 : decode cX1_lowestPlace 36 = .ok (.invokevirtual 57, 3) := by decide +kernel
theorem dX1_lowestPlace_39 : decode cX1_lowestPlace 39 = .ok (.istore_n 3, 1) := by decide +kernel
theorem dX1_lowestPlace_40 : decode cX1_lowestPlace 40 = .ok (.iinc 4 1, 3) := by decide +kernel
theorem dX1_lowestPlace_43 : decode cX1_lowestPlace 43 = .ok (.goto (-38), 3) := by decide +kernel
theorem dX1_lowestPlace_46 : decode cX1_lowestPlace 46 = .ok (.iload_n 3, 1) := by decide +kernel
theorem dX1_lowestPlace_47 : decode cX1_lowestPlace 47 = .ok (.ireturn, 1) := by decide +kernel
theorem s18_0 : aW d 18 0 L S h Q = aW d 18 1 L (.int (nI 0) :: S) h Q := ax_iconst mt18 dX1_lowestPlace_0 ic_0
theorem s18_1 : aW d 18 1 [l0, l1, l2, l3, l4, l5] (.int a :: S) h Q = aW d 18 2 [l0, l1, l2, .int a, l4, l5] S h Q := ax_istore_n mt18 dX1_lowestPlace_1 (Nat.le_of_ble_eq_true rfl) rfl
theorem s18_2 : aW d 18 2 L S h Q = aW d 18 3 L (.int (nI 0) :: S) h Q := ax_iconst mt18 dX1_lowestPlace_2 ic_0
theorem s18_3 : aW d 18 3 [l0, l1, l2, l3, l4, l5] (.int a :: S) h Q = aW d 18 5 [l0, l1, l2, l3, .int a, l5] S h Q := ax_istore mt18 dX1_lowestPlace_3 (Nat.le_of_ble_eq_true rfl) rfl
theorem s18_5 : aW d 18 5 [l0, l1, l2, l3, .int a, l5] S h Q = aW d 18 7 [l0, l1, l2, l3, .int a, l5] (.int a :: S) h Q := ax_iload mt18 dX1_lowestPlace_5 rfl
theorem s18_7 : aW d 18 7 [.ref o, l1, l2, l3, l4, l5] S h Q = aW d 18 8 [.ref o, l1, l2, l3, l4, l5] (.ref o :: S) h Q := ax_aload_n mt18 dX1_lowestPlace_7 rfl
theorem s18_8 (hT : gT h o = some (4, 6)) : aW d 18 8 L (.ref o :: S) h Q = (isRf (gR h o 1) = true ∧ aW d 18 11 L (gR h o 1 :: S) h Q) := ax_geta mt18 dX1_lowestPlace_8 (by decide) ft_4118 fk_4118 hT
theorem s18_11 (hT : gT h o = some (11, 3)) : aW d 18 11 L (.ref o :: S) h Q = aW d 18 14 L (.int (gI h o 1) :: S) h Q := ax_geti mt18 dX1_lowestPlace_11 (by decide) ft_4122 fk_4122 hT
theorem s18_14 : aW d 18 14 L (.int b :: .int a :: S) h Q = (if a < b then aW d 18 17 L S h Q else aW d 18 46 L S h Q) := ax_icmp_ge mt18 dX1_lowestPlace_14 (by decide)
theorem s18_17 : aW d 18 17 [.ref o, l1, l2, l3, l4, l5] S h Q = aW d 18 18 [.ref o, l1, l2, l3, l4, l5] (.ref o :: S) h Q := ax_aload_n mt18 dX1_lowestPlace_17 rfl
theorem s18_18 : aW d 18 18 [l0, .int a, l2, l3, l4, l5] S h Q = aW d 18 19 [l0, .int a, l2, l3, l4, l5] (.int a :: S) h Q := ax_iload_n mt18 dX1_lowestPlace_18 rfl
theorem s18_19 : aW d 18 19 [l0, l1, l2, .int a, l4, l5] S h Q = aW d 18 20 [l0, l1, l2, .int a, l4, l5] (.int a :: S) h Q := ax_iload_n mt18 dX1_lowestPlace_19 rfl
theorem s18_20 : aW d 18 20 [l0, l1, .int a, l3, l4, l5] S h Q = aW d 18 21 [l0, l1, .int a, l3, l4, l5] (.int a :: S) h Q := ax_iload_n mt18 dX1_lowestPlace_20 rfl
theorem s18_21 (hT : gT h o = some (4, 6)) : aW (d + 1) 18 21 L (.int x2 :: .int x1 :: .int x0 :: .ref o :: []) h Q = aM d 19 (.ref o :: [.int x0, .int x1, .int x2]) h (fun v h1 => aW (d + 1) 18 24 L (ab_ps v []) h1 Q) := ax_invv mt18 dX1_lowestPlace_21 (by decide) ct_4175 (.inl rfl) mt19 ⟨⟨Nat.le_of_ble_eq_true rfl, Nat.le_of_ble_eq_true rfl, Nat.le_of_ble_eq_true rfl⟩, rfl, rfl, rfl⟩ hT
theorem s18_24 : aW d 18 24 [l0, l1, l2, l3, l4, l5] (.int a :: S) h Q = aW d 18 26 [l0, l1, l2, l3, l4, .int a] S h Q := ax_istore mt18 dX1_lowestPlace_24 (Nat.le_of_ble_eq_true rfl) rfl
theorem s18_26 : aW d 18 26 [l0, l1, l2, l3, l4, .int a] S h Q = aW d 18 28 [l0, l1, l2, l3, l4, .int a] (.int a :: S) h Q := ax_iload mt18 dX1_lowestPlace_26 rfl
theorem s18_28 : aW d 18 28 L (.int a :: S) h Q = (if a < 0 then aW d 18 31 L S h Q else aW d 18 33 L S h Q) := ax_if_ge mt18 dX1_lowestPlace_28 (by decide)
theorem s18_31 : aW d 18 31 [l0, l1, l2, .int a, l4, l5] S h Q = aW d 18 32 [l0, l1, l2, .int a, l4, l5] (.int a :: S) h Q := ax_iload_n mt18 dX1_lowestPlace_31 rfl
theorem s18_32 : aW d 18 32 L [.int a] h Q = Q (some (.int a)) h := ax_reti mt18 dX1_lowestPlace_32 rfl
theorem s18_33 : aW d 18 33 [.ref o, l1, l2, l3, l4, l5] S h Q = aW d 18 34 [.ref o, l1, l2, l3, l4, l5] (.ref o :: S) h Q := ax_aload_n mt18 dX1_lowestPlace_33 rfl
theorem s18_34 : aW d 18 34 [l0, l1, l2, l3, l4, .int a] S h Q = aW d 18 36 [l0, l1, l2, l3, l4, .int a] (.int a :: S) h Q := ax_iload mt18 dX1_lowestPlace_34 rfl
theorem s18_36 (hT : gT h o = some (4, 6)) : aW (d + 1) 18 36 L (.int x0 :: .ref o :: []) h Q = aM d 17 (.ref o :: [.int x0]) h (fun v h1 => aW (d + 1) 18 39 L (ab_ps v []) h1 Q) := ax_invv mt18 dX1_lowestPlace_36 (by decide) ct_4153 (.inl rfl) mt17 ⟨⟨Nat.le_of_ble_eq_true rfl, Nat.le_of_ble_eq_true rfl, Nat.le_of_ble_eq_true rfl⟩, rfl, rfl, rfl⟩ hT
theorem s18_39 : aW d 18 39 [l0, l1, l2, l3, l4, l5] (.int a :: S) h Q = aW d 18 40 [l0, l1, l2, .int a, l4, l5] S h Q := ax_istore_n mt18 dX1_lowestPlace_39 (Nat.le_of_ble_eq_true rfl) rfl
theorem s18_40 : aW d 18 40 [l0, l1, l2, l3, .int a, l5] S h Q = aW d 18 43 [l0, l1, l2, l3, .int (a + nI 1), l5] S h Q := ax_iinc mt18 dX1_lowestPlace_40 rfl ic_1 rfl
theorem s18_43 : aW d 18 43 L S h Q = aW d 18 5 L S h Q := ax_goto mt18 dX1_lowestPlace_43 (by decide)
theorem s18_46 : aW d 18 46 [l0, l1, l2, .int a, l4, l5] S h Q = aW d 18 47 [l0, l1, l2, .int a, l4, l5] (.int a :: S) h Q := ax_iload_n mt18 dX1_lowestPlace_46 rfl
theorem s18_47 : aW d 18 47 L [.int a] h Q = Q (some (.int a)) h := ax_reti mt18 dX1_lowestPlace_47 rfl
-- method 19: BufferRoom$Heights.firstHit(III)I
theorem dX1_firstHit_0 : decode cX1_firstHit 0 = .ok (.aload_n 0, 1) := by decide +kernel
theorem dX1_firstHit_1 : decode cX1_firstHit 1 = .ok (.getfield 22, 3) := by decide +kernel
theorem dX1_firstHit_4 : decode cX1_firstHit 4 = .ok (.getfield 76, 3) := by decide +kernel
theorem dX1_firstHit_7 : decode cX1_firstHit 7 = .ok (.iload_n 1, 1) := by decide +kernel
theorem dX1_firstHit_8 : decode cX1_firstHit 8 = .ok (.iaload, 1) := by decide +kernel
theorem dX1_firstHit_9 : decode cX1_firstHit 9 = .ok (.istore 4, 2) := by decide +kernel
theorem dX1_firstHit_11 : decode cX1_firstHit 11 = .ok (.aload_n 0, 1) := by decide +kernel
theorem dX1_firstHit_12 : decode cX1_firstHit 12 = .ok (.getfield 18, 3) := by decide +kernel
theorem dX1_firstHit_15 : decode cX1_firstHit 15 = .ok (.getfield 66, 3) := by decide +kernel
theorem dX1_firstHit_18 : decode cX1_firstHit 18 = .ok (.getfield 72, 3) := by decide +kernel
theorem dX1_firstHit_21 : decode cX1_firstHit 21 = .ok (.astore 5, 2) := by decide +kernel
theorem dX1_firstHit_23 : decode cX1_firstHit 23 = .ok (.iconst 0, 1) := by decide +kernel
theorem dX1_firstHit_24 : decode cX1_firstHit 24 = .ok (.istore 6, 2) := by decide +kernel
theorem dX1_firstHit_26 : decode cX1_firstHit 26 = .ok (.iload 6, 2) := by decide +kernel
theorem dX1_firstHit_28 : decode cX1_firstHit 28 = .ok (.aload_n 0, 1) := by decide +kernel
theorem dX1_firstHit_29 : decode cX1_firstHit 29 = .ok (.getfield 22, 3) := by decide +kernel
theorem dX1_firstHit_32 : decode cX1_firstHit 32 = .ok (.getfield 26, 3) := by decide +kernel
theorem dX1_firstHit_35 : decode cX1_firstHit 35 = .ok (.if_icmp .ge 71, 3) := by decide +kernel
theorem dX1_firstHit_38 : decode cX1_firstHit 38 = .ok (.aload_n 0, 1) := by decide +kernel
theorem dX1_firstHit_39 : decode cX1_firstHit 39 = .ok (.getfield 22, 3) := by decide +kernel
theorem dX1_firstHit_42 : decode cX1_firstHit 42 = .ok (.getfield 76, 3) := by decide +kernel
theorem dX1_firstHit_45 : decode cX1_firstHit 45 = .ok (.iload 6, 2) := by decide +kernel
theorem dX1_firstHit_47 : decode cX1_firstHit 47 = .ok (.iaload, 1) := by decide +kernel
theorem dX1_firstHit_48 : decode cX1_firstHit 48 = .ok (.istore 7, 2) := by decide +kernel
theorem dX1_firstHit_50 : decode cX1_firstHit 50 = .ok (.iload_n 3, 1) := by decide +kernel
theorem dX1_firstHit_51 : decode cX1_firstHit 51 = .ok (.iload 6, 2) := by decide +kernel
theorem dX1_firstHit_53 : decode cX1_firstHit 53 = .ok (.ishr, 1) := by decide +kernel
theorem dX1_firstHit_54 : decode cX1_firstHit 54 = .ok (.iconst 1, 1) := by decide +kernel
theorem dX1_firstHit_55 : decode cX1_firstHit 55 = .ok (.iand, 1) := by decide +kernel
theorem dX1_firstHit_56 : decode cX1_firstHit 56 = .ok (.ifCond .eq 44, 3) := by decide +kernel
theorem dX1_firstHit_59 : decode cX1_firstHit 59 = .ok (.aload_n 0, 1) := by decide +kernel
theorem dX1_firstHit_60 : decode cX1_firstHit 60 = .ok (.getfield 18, 3) := by decide +kernel
theorem dX1_firstHit_63 : decode cX1_firstHit 63 = .ok (.iload 4, 2) := by decide +kernel
theorem dX1_firstHit_65 : decode cX1_firstHit 65 = .ok (.iload 7, 2) := by decide +kernel
theorem dX1_firstHit_67 : decode cX1_firstHit 67 = .ok (.invokevirtual 83, 3) := by decide +kernel
theorem dX1_firstHit_70 : decode cX1_firstHit 70 = .ok (.ifCond .eq 30, 3) := by decide +kernel
theorem dX1_firstHit_73 : decode cX1_firstHit 73 = .ok (.iload_n 2, 1) := by decide +kernel
theorem dX1_firstHit_74 : decode cX1_firstHit 74 = .ok (.aload 5, 2) := by decide +kernel
theorem dX1_firstHit_76 : decode cX1_firstHit 76 = .ok (.iload 4, 2) := by decide +kernel
theorem dX1_firstHit_78 : decode cX1_firstHit 78 = .ok (.iaload, 1) := by decide +kernel
theorem dX1_firstHit_79 : decode cX1_firstHit 79 = .ok (.aload_n 0, 1) := by decide +kernel
theorem dX1_firstHit_80 : decode cX1_firstHit 80 = .ok (.getfield 9, 3) := by decide +kernel
theorem dX1_firstHit_83 : decode cX1_firstHit 83 = .ok (.iload 6, 2) := by decide +kernel
theorem dX1_firstHit_85 : decode cX1_firstHit 85 = .ok (.iaload, 1) := by decide +kernel
theorem dX1_firstHit_86 : decode cX1_firstHit 86 = .ok (.aload 5, 2) := by decide +kernel
theorem dX1_firstHit_88 : decode cX1_firstHit 88 = .ok (.iload 7, 2) := by decide +kernel
theorem dX1_firstHit_90 : decode cX1_firstHit 90 = .ok (.iaload, 1) := by decide +kernel
theorem dX1_firstHit_91 : decode cX1_firstHit 91 = .ok (.invokestatic 87, 3) := by decide +kernel
theorem dX1_firstHit_94 : decode cX1_firstHit 94 = .ok (.ifCond .eq 6, 3) := by decide +kernel
theorem dX1_firstHit_97 : decode cX1_firstHit 97 = .ok (.iload 6, 2) := by decide +kernel
theorem dX1_firstHit_99 : decode cX1_firstHit 99 = .ok (.ireturn, 1) := by decide +kernel
theorem dX1_firstHit_100 : decode cX1_firstHit 100 = .ok (.iinc 6 1, 3) := by decide +kernel
theorem dX1_firstHit_103 : decode cX1_firstHit 103 = .ok (.goto (-77), 3) := by decide +kernel
theorem dX1_firstHit_106 : decode cX1_firstHit 106 = .ok (.iconst (-1), 1) := by decide +kernel
theorem dX1_firstHit_107 : decode cX1_firstHit 107 = .ok (.ireturn, 1) := by decide +kernel
theorem s19_0 : aW d 19 0 [.ref o, l1, l2, l3, l4, l5, l6, l7] S h Q = aW d 19 1 [.ref o, l1, l2, l3, l4, l5, l6, l7] (.ref o :: S) h Q := ax_aload_n mt19 dX1_firstHit_0 rfl
theorem s19_1 (hT : gT h o = some (4, 6)) : aW d 19 1 L (.ref o :: S) h Q = (isRf (gR h o 1) = true ∧ aW d 19 4 L (gR h o 1 :: S) h Q) := ax_geta mt19 dX1_firstHit_1 (by decide) ft_4118 fk_4118 hT
theorem s19_4 (hT : gT h o = some (11, 3)) : aW d 19 4 L (.ref o :: S) h Q = (isRf (gR h o 2) = true ∧ aW d 19 7 L (gR h o 2 :: S) h Q) := ax_geta mt19 dX1_firstHit_4 (by decide) ft_4172 fk_4172 hT
theorem s19_7 : aW d 19 7 [l0, .int a, l2, l3, l4, l5, l6, l7] S h Q = aW d 19 8 [l0, .int a, l2, l3, l4, l5, l6, l7] (.int a :: S) h Q := ax_iload_n mt19 dX1_firstHit_7 rfl
theorem s19_8 : aW d 19 8 L (.int a :: .ref o :: S) h Q = (inb a (aI h o) ∧ aW d 19 9 L (.int (gI h o a.toNatClampNeg) :: S) h Q) := ax_iald mt19 dX1_firstHit_8
theorem s19_9 : aW d 19 9 [l0, l1, l2, l3, l4, l5, l6, l7] (.int a :: S) h Q = aW d 19 11 [l0, l1, l2, l3, .int a, l5, l6, l7] S h Q := ax_istore mt19 dX1_firstHit_9 (Nat.le_of_ble_eq_true rfl) rfl
theorem s19_11 : aW d 19 11 [.ref o, l1, l2, l3, l4, l5, l6, l7] S h Q = aW d 19 12 [.ref o, l1, l2, l3, l4, l5, l6, l7] (.ref o :: S) h Q := ax_aload_n mt19 dX1_firstHit_11 rfl
theorem s19_12 (hT : gT h o = some (4, 6)) : aW d 19 12 L (.ref o :: S) h Q = (isRf (gR h o 0) = true ∧ aW d 19 15 L (gR h o 0 :: S) h Q) := ax_geta mt19 dX1_firstHit_12 (by decide) ft_4114 fk_4114 hT
theorem s19_15 (hT : gT h o = some (12, 9)) : aW d 19 15 L (.ref o :: S) h Q = (isRf (gR h o 0) = true ∧ aW d 19 18 L (gR h o 0 :: S) h Q) := ax_geta mt19 dX1_firstHit_15 (by decide) ft_4162 fk_4162 hT
theorem s19_18 (hT : gT h o = some (5, 4)) : aW d 19 18 L (.ref o :: S) h Q = (isRf (gR h o 1) = true ∧ aW d 19 21 L (gR h o 1 :: S) h Q) := ax_geta mt19 dX1_firstHit_18 (by decide) ft_4168 fk_4168 hT
theorem s19_21 : aW d 19 21 [l0, l1, l2, l3, l4, l5, l6, l7] (.ref o :: S) h Q = aW d 19 23 [l0, l1, l2, l3, l4, .ref o, l6, l7] S h Q := ax_astore mt19 dX1_firstHit_21 (Nat.le_of_ble_eq_true rfl) rfl
theorem s19_23 : aW d 19 23 L S h Q = aW d 19 24 L (.int (nI 0) :: S) h Q := ax_iconst mt19 dX1_firstHit_23 ic_0
theorem s19_24 : aW d 19 24 [l0, l1, l2, l3, l4, l5, l6, l7] (.int a :: S) h Q = aW d 19 26 [l0, l1, l2, l3, l4, l5, .int a, l7] S h Q := ax_istore mt19 dX1_firstHit_24 (Nat.le_of_ble_eq_true rfl) rfl
theorem s19_26 : aW d 19 26 [l0, l1, l2, l3, l4, l5, .int a, l7] S h Q = aW d 19 28 [l0, l1, l2, l3, l4, l5, .int a, l7] (.int a :: S) h Q := ax_iload mt19 dX1_firstHit_26 rfl
theorem s19_28 : aW d 19 28 [.ref o, l1, l2, l3, l4, l5, l6, l7] S h Q = aW d 19 29 [.ref o, l1, l2, l3, l4, l5, l6, l7] (.ref o :: S) h Q := ax_aload_n mt19 dX1_firstHit_28 rfl
theorem s19_29 (hT : gT h o = some (4, 6)) : aW d 19 29 L (.ref o :: S) h Q = (isRf (gR h o 1) = true ∧ aW d 19 32 L (gR h o 1 :: S) h Q) := ax_geta mt19 dX1_firstHit_29 (by decide) ft_4118 fk_4118 hT
theorem s19_32 (hT : gT h o = some (11, 3)) : aW d 19 32 L (.ref o :: S) h Q = aW d 19 35 L (.int (gI h o 1) :: S) h Q := ax_geti mt19 dX1_firstHit_32 (by decide) ft_4122 fk_4122 hT
theorem s19_35 : aW d 19 35 L (.int b :: .int a :: S) h Q = (if a < b then aW d 19 38 L S h Q else aW d 19 106 L S h Q) := ax_icmp_ge mt19 dX1_firstHit_35 (by decide)
theorem s19_38 : aW d 19 38 [.ref o, l1, l2, l3, l4, l5, l6, l7] S h Q = aW d 19 39 [.ref o, l1, l2, l3, l4, l5, l6, l7] (.ref o :: S) h Q := ax_aload_n mt19 dX1_firstHit_38 rfl
theorem s19_39 (hT : gT h o = some (4, 6)) : aW d 19 39 L (.ref o :: S) h Q = (isRf (gR h o 1) = true ∧ aW d 19 42 L (gR h o 1 :: S) h Q) := ax_geta mt19 dX1_firstHit_39 (by decide) ft_4118 fk_4118 hT
theorem s19_42 (hT : gT h o = some (11, 3)) : aW d 19 42 L (.ref o :: S) h Q = (isRf (gR h o 2) = true ∧ aW d 19 45 L (gR h o 2 :: S) h Q) := ax_geta mt19 dX1_firstHit_42 (by decide) ft_4172 fk_4172 hT
theorem s19_45 : aW d 19 45 [l0, l1, l2, l3, l4, l5, .int a, l7] S h Q = aW d 19 47 [l0, l1, l2, l3, l4, l5, .int a, l7] (.int a :: S) h Q := ax_iload mt19 dX1_firstHit_45 rfl
theorem s19_47 : aW d 19 47 L (.int a :: .ref o :: S) h Q = (inb a (aI h o) ∧ aW d 19 48 L (.int (gI h o a.toNatClampNeg) :: S) h Q) := ax_iald mt19 dX1_firstHit_47
theorem s19_48 : aW d 19 48 [l0, l1, l2, l3, l4, l5, l6, l7] (.int a :: S) h Q = aW d 19 50 [l0, l1, l2, l3, l4, l5, l6, .int a] S h Q := ax_istore mt19 dX1_firstHit_48 (Nat.le_of_ble_eq_true rfl) rfl
theorem s19_50 : aW d 19 50 [l0, l1, l2, .int a, l4, l5, l6, l7] S h Q = aW d 19 51 [l0, l1, l2, .int a, l4, l5, l6, l7] (.int a :: S) h Q := ax_iload_n mt19 dX1_firstHit_50 rfl
theorem s19_51 : aW d 19 51 [l0, l1, l2, l3, l4, l5, .int a, l7] S h Q = aW d 19 53 [l0, l1, l2, l3, l4, l5, .int a, l7] (.int a :: S) h Q := ax_iload mt19 dX1_firstHit_51 rfl
theorem s19_53 : aW d 19 53 L (.int b :: .int a :: S) h Q = aW d 19 54 L (.int (a >>> (b &&& 31)) :: S) h Q := ax_ishr mt19 dX1_firstHit_53
theorem s19_54 : aW d 19 54 L S h Q = aW d 19 55 L (.int (nI 1) :: S) h Q := ax_iconst mt19 dX1_firstHit_54 ic_1
theorem s19_55 : aW d 19 55 L (.int b :: .int a :: S) h Q = aW d 19 56 L (.int (a &&& b) :: S) h Q := ax_iand mt19 dX1_firstHit_55
theorem s19_56 : aW d 19 56 L (.int a :: S) h Q = (if a = 0 then aW d 19 100 L S h Q else aW d 19 59 L S h Q) := ax_if_eq mt19 dX1_firstHit_56 (by decide)
theorem s19_59 : aW d 19 59 [.ref o, l1, l2, l3, l4, l5, l6, l7] S h Q = aW d 19 60 [.ref o, l1, l2, l3, l4, l5, l6, l7] (.ref o :: S) h Q := ax_aload_n mt19 dX1_firstHit_59 rfl
theorem s19_60 (hT : gT h o = some (4, 6)) : aW d 19 60 L (.ref o :: S) h Q = (isRf (gR h o 0) = true ∧ aW d 19 63 L (gR h o 0 :: S) h Q) := ax_geta mt19 dX1_firstHit_60 (by decide) ft_4114 fk_4114 hT
theorem s19_63 : aW d 19 63 [l0, l1, l2, l3, .int a, l5, l6, l7] S h Q = aW d 19 65 [l0, l1, l2, l3, .int a, l5, l6, l7] (.int a :: S) h Q := ax_iload mt19 dX1_firstHit_63 rfl
theorem s19_65 : aW d 19 65 [l0, l1, l2, l3, l4, l5, l6, .int a] S h Q = aW d 19 67 [l0, l1, l2, l3, l4, l5, l6, .int a] (.int a :: S) h Q := ax_iload mt19 dX1_firstHit_65 rfl
theorem s19_67 (hT : gT h o = some (12, 9)) : aW (d + 1) 19 67 L (.int x1 :: .int x0 :: .ref o :: []) h Q = aM d 91 (.ref o :: [.int x0, .int x1]) h (fun v h1 => aW (d + 1) 19 70 L (ab_ps v []) h1 Q) := ax_invv mt19 dX1_firstHit_67 (by decide) ct_4179 (.inl rfl) mt91 ⟨⟨Nat.le_of_ble_eq_true rfl, Nat.le_of_ble_eq_true rfl, Nat.le_of_ble_eq_true rfl⟩, rfl, rfl, rfl⟩ hT
theorem s19_70 : aW d 19 70 L (.int a :: S) h Q = (if a = 0 then aW d 19 100 L S h Q else aW d 19 73 L S h Q) := ax_if_eq mt19 dX1_firstHit_70 (by decide)
theorem s19_73 : aW d 19 73 [l0, l1, .int a, l3, l4, l5, l6, l7] S h Q = aW d 19 74 [l0, l1, .int a, l3, l4, l5, l6, l7] (.int a :: S) h Q := ax_iload_n mt19 dX1_firstHit_73 rfl
theorem s19_74 : aW d 19 74 [l0, l1, l2, l3, l4, .ref o, l6, l7] S h Q = aW d 19 76 [l0, l1, l2, l3, l4, .ref o, l6, l7] (.ref o :: S) h Q := ax_aload mt19 dX1_firstHit_74 rfl
theorem s19_76 : aW d 19 76 [l0, l1, l2, l3, .int a, l5, l6, l7] S h Q = aW d 19 78 [l0, l1, l2, l3, .int a, l5, l6, l7] (.int a :: S) h Q := ax_iload mt19 dX1_firstHit_76 rfl
theorem s19_78 : aW d 19 78 L (.int a :: .ref o :: S) h Q = (inb a (aI h o) ∧ aW d 19 79 L (.int (gI h o a.toNatClampNeg) :: S) h Q) := ax_iald mt19 dX1_firstHit_78
theorem s19_79 : aW d 19 79 [.ref o, l1, l2, l3, l4, l5, l6, l7] S h Q = aW d 19 80 [.ref o, l1, l2, l3, l4, l5, l6, l7] (.ref o :: S) h Q := ax_aload_n mt19 dX1_firstHit_79 rfl
theorem s19_80 (hT : gT h o = some (4, 6)) : aW d 19 80 L (.ref o :: S) h Q = (isRf (gR h o 3) = true ∧ aW d 19 83 L (gR h o 3 :: S) h Q) := ax_geta mt19 dX1_firstHit_80 (by decide) ft_4105 fk_4105 hT
theorem s19_83 : aW d 19 83 [l0, l1, l2, l3, l4, l5, .int a, l7] S h Q = aW d 19 85 [l0, l1, l2, l3, l4, l5, .int a, l7] (.int a :: S) h Q := ax_iload mt19 dX1_firstHit_83 rfl
theorem s19_85 : aW d 19 85 L (.int a :: .ref o :: S) h Q = (inb a (aI h o) ∧ aW d 19 86 L (.int (gI h o a.toNatClampNeg) :: S) h Q) := ax_iald mt19 dX1_firstHit_85
theorem s19_86 : aW d 19 86 [l0, l1, l2, l3, l4, .ref o, l6, l7] S h Q = aW d 19 88 [l0, l1, l2, l3, l4, .ref o, l6, l7] (.ref o :: S) h Q := ax_aload mt19 dX1_firstHit_86 rfl
theorem s19_88 : aW d 19 88 [l0, l1, l2, l3, l4, l5, l6, .int a] S h Q = aW d 19 90 [l0, l1, l2, l3, l4, l5, l6, .int a] (.int a :: S) h Q := ax_iload mt19 dX1_firstHit_88 rfl
theorem s19_90 : aW d 19 90 L (.int a :: .ref o :: S) h Q = (inb a (aI h o) ∧ aW d 19 91 L (.int (gI h o a.toNatClampNeg) :: S) h Q) := ax_iald mt19 dX1_firstHit_90
theorem s19_91 : aW (d + 1) 19 91 L (.int x3 :: .int x2 :: .int x1 :: .int x0 :: []) h Q = aM d 132 [.int x0, .int x1, .int x2, .int x3] h (fun v h1 => aW (d + 1) 19 94 L (ab_ps v []) h1 Q) := ax_invs mt19 dX1_firstHit_91 (by decide) ct_4183 (.inr rfl) mt132 ⟨⟨Nat.le_of_ble_eq_true rfl, Nat.le_of_ble_eq_true rfl, Nat.le_of_ble_eq_true rfl⟩, rfl, rfl⟩
theorem s19_94 : aW d 19 94 L (.int a :: S) h Q = (if a = 0 then aW d 19 100 L S h Q else aW d 19 97 L S h Q) := ax_if_eq mt19 dX1_firstHit_94 (by decide)
theorem s19_97 : aW d 19 97 [l0, l1, l2, l3, l4, l5, .int a, l7] S h Q = aW d 19 99 [l0, l1, l2, l3, l4, l5, .int a, l7] (.int a :: S) h Q := ax_iload mt19 dX1_firstHit_97 rfl
theorem s19_99 : aW d 19 99 L [.int a] h Q = Q (some (.int a)) h := ax_reti mt19 dX1_firstHit_99 rfl
theorem s19_100 : aW d 19 100 [l0, l1, l2, l3, l4, l5, .int a, l7] S h Q = aW d 19 103 [l0, l1, l2, l3, l4, l5, .int (a + nI 1), l7] S h Q := ax_iinc mt19 dX1_firstHit_100 rfl ic_1 rfl
theorem s19_103 : aW d 19 103 L S h Q = aW d 19 26 L S h Q := ax_goto mt19 dX1_firstHit_103 (by decide)
theorem s19_106 : aW d 19 106 L S h Q = aW d 19 107 L (.int ((-1)) :: S) h Q := ax_iconst mt19 dX1_firstHit_106 ic_m1
theorem s19_107 : aW d 19 107 L [.int a] h Q = Q (some (.int a)) h := ax_reti mt19 dX1_firstHit_107 rfl
-- method 20: BufferRoom$Kinds.isKind(I)Z
theorem dX2_isKind_0 : decode cX2_isKind 0 = .ok (.iload_n 0, 1) := by decide +kernel
theorem dX2_isKind_1 : decode cX2_isKind 1 = .ok (.ifCond .lt 12, 3) := by decide +kernel
theorem dX2_isKind_4 : decode cX2_isKind 4 = .ok (.iload_n 0, 1) := by decide +kernel
theorem dX2_isKind_5 : decode cX2_isKind 5 = .ok (.iconst 5, 1) := by decide +kernel
theorem dX2_isKind_6 : decode cX2_isKind 6 = .ok (.if_icmp .gt 7, 3) := by decide +kernel
theorem dX2_isKind_9 : decode cX2_isKind 9 = .ok (.iconst 1, 1) := by decide +kernel
theorem dX2_isKind_10 : decode cX2_isKind 10 = .ok (.goto 4, 3) := by decide +kernel
theorem dX2_isKind_13 : decode cX2_isKind 13 = .ok (.iconst 0, 1) := by decide +kernel
theorem dX2_isKind_14 : decode cX2_isKind 14 = .ok (.ireturn, 1) := by decide +kernel
theorem s20_0 : aW d 20 0 [.int a] S h Q = aW d 20 1 [.int a] (.int a :: S) h Q := ax_iload_n mt20 dX2_isKind_0 rfl
theorem s20_1 : aW d 20 1 L (.int a :: S) h Q = (if a < 0 then aW d 20 13 L S h Q else aW d 20 4 L S h Q) := ax_if_lt mt20 dX2_isKind_1 (by decide)
theorem s20_4 : aW d 20 4 [.int a] S h Q = aW d 20 5 [.int a] (.int a :: S) h Q := ax_iload_n mt20 dX2_isKind_4 rfl
theorem s20_5 : aW d 20 5 L S h Q = aW d 20 6 L (.int (nI 5) :: S) h Q := ax_iconst mt20 dX2_isKind_5 ic_5
theorem s20_6 : aW d 20 6 L (.int b :: .int a :: S) h Q = (if b < a then aW d 20 13 L S h Q else aW d 20 9 L S h Q) := ax_icmp_gt mt20 dX2_isKind_6 (by decide)
theorem s20_9 : aW d 20 9 L S h Q = aW d 20 10 L (.int (nI 1) :: S) h Q := ax_iconst mt20 dX2_isKind_9 ic_1
theorem s20_10 : aW d 20 10 L S h Q = aW d 20 14 L S h Q := ax_goto mt20 dX2_isKind_10 (by decide)
theorem s20_14 : aW d 20 14 L [.int a] h Q = (b01 a ∧ Q (some (.int a)) h) := ax_retz mt20 dX2_isKind_14 rfl
theorem s20_13 : aW d 20 13 L S h Q = aW d 20 14 L (.int (nI 0) :: S) h Q := ax_iconst mt20 dX2_isKind_13 ic_0
-- method 21: BufferRoom$Kinds.isOne(II)Z
theorem dX2_isOne_0 : decode cX2_isOne 0 = .ok (.iload_n 0, 1) := by decide +kernel
theorem dX2_isOne_1 : decode cX2_isOne 1 = .ok (.invokestatic 9, 3) := by decide +kernel
theorem dX2_isOne_4 : decode cX2_isOne 4 = .ok (.ifCond .eq 7, 3) := by decide +kernel
theorem dX2_isOne_7 : decode cX2_isOne 7 = .ok (.iload_n 0, 1) := by decide +kernel
theorem dX2_isOne_8 : decode cX2_isOne 8 = .ok (.goto 4, 3) := by decide +kernel
theorem dX2_isOne_11 : decode cX2_isOne 11 = .ok (.iconst (-1), 1) := by decide +kernel
theorem dX2_isOne_12 : decode cX2_isOne 12 = .ok (.istore_n 2, 1) := by decide +kernel
theorem dX2_isOne_13 : decode cX2_isOne 13 = .ok (.iconst 0, 1) := by decide +kernel
theorem dX2_isOne_14 : decode cX2_isOne 14 = .ok (.istore_n 3, 1) := by decide +kernel
theorem dX2_isOne_15 : decode cX2_isOne 15 = .ok (.iload_n 3, 1) := by decide +kernel
theorem dX2_isOne_16 : decode cX2_isOne 16 = .ok (.getstatic 13, 3) := by decide +kernel
theorem dX2_isOne_19 : decode cX2_isOne 19 = .ok (.arraylength, 1) := by decide +kernel
theorem dX2_isOne_20 : decode cX2_isOne 20 = .ok (.if_icmp .ge 26, 3) := by decide +kernel
theorem dX2_isOne_23 : decode cX2_isOne 23 = .ok (.iload_n 2, 1) := by decide +kernel
theorem dX2_isOne_24 : decode cX2_isOne 24 = .ok (.ifCond .lt 22, 3) := by decide +kernel
theorem dX2_isOne_27 : decode cX2_isOne 27 = .ok (.iload_n 2, 1) := by decide +kernel
theorem dX2_isOne_28 : decode cX2_isOne 28 = .ok (.iload_n 1, 1) := by decide +kernel
theorem dX2_isOne_29 : decode cX2_isOne 29 = .ok (.if_icmp .ne 5, 3) := by decide +kernel
theorem dX2_isOne_32 : decode cX2_isOne 32 = .ok (.iconst 1, 1) := by decide +kernel
theorem dX2_isOne_33 : decode cX2_isOne 33 = .ok (.ireturn, 1) := by decide +kernel
theorem dX2_isOne_34 : decode cX2_isOne 34 = .ok (.getstatic 13, 3) := by decide +kernel
theorem dX2_isOne_37 : decode cX2_isOne 37 = .ok (.iload_n 2, 1) := by decide +kernel
theorem dX2_isOne_38 : decode cX2_isOne 38 = .ok (.iaload, 1) := by decide +kernel
theorem dX2_isOne_39 : decode cX2_isOne 39 = .ok (.istore_n 2, 1) := by decide +kernel
theorem dX2_isOne_40 : decode cX2_isOne 40 = .ok (.iinc 3 1, 3) := by decide +kernel
theorem dX2_isOne_43 : decode cX2_isOne 43 = .ok (.goto (-28), 3) := by decide +kernel
theorem dX2_isOne_46 : decode cX2_isOne 46 = .ok (.iconst 0, 1) := by decide +kernel
theorem dX2_isOne_47 : decode cX2_isOne 47 = .ok (.ireturn, 1) := by decide +kernel
theorem s21_0 : aW d 21 0 [.int a, l1, l2, l3] S h Q = aW d 21 1 [.int a, l1, l2, l3] (.int a :: S) h Q := ax_iload_n mt21 dX2_isOne_0 rfl
theorem s21_1 : aW (d + 1) 21 1 L (.int x0 :: []) h Q = aM d 20 [.int x0] h (fun v h1 => aW (d + 1) 21 4 L (ab_ps v []) h1 Q) := ax_invs mt21 dX2_isOne_1 (by decide) ct_8201 (.inl rfl) mt20 ⟨⟨Nat.le_of_ble_eq_true rfl, Nat.le_of_ble_eq_true rfl, Nat.le_of_ble_eq_true rfl⟩, rfl, rfl⟩
theorem s21_4 : aW d 21 4 L (.int a :: S) h Q = (if a = 0 then aW d 21 11 L S h Q else aW d 21 7 L S h Q) := ax_if_eq mt21 dX2_isOne_4 (by decide)
theorem s21_7 : aW d 21 7 [.int a, l1, l2, l3] S h Q = aW d 21 8 [.int a, l1, l2, l3] (.int a :: S) h Q := ax_iload_n mt21 dX2_isOne_7 rfl
theorem s21_8 : aW d 21 8 L S h Q = aW d 21 12 L S h Q := ax_goto mt21 dX2_isOne_8 (by decide)
theorem s21_12 : aW d 21 12 [l0, l1, l2, l3] (.int a :: S) h Q = aW d 21 13 [l0, l1, .int a, l3] S h Q := ax_istore_n mt21 dX2_isOne_12 (Nat.le_of_ble_eq_true rfl) rfl
theorem s21_13 : aW d 21 13 L S h Q = aW d 21 14 L (.int (nI 0) :: S) h Q := ax_iconst mt21 dX2_isOne_13 ic_0
theorem s21_14 : aW d 21 14 [l0, l1, l2, l3] (.int a :: S) h Q = aW d 21 15 [l0, l1, l2, .int a] S h Q := ax_istore_n mt21 dX2_isOne_14 (Nat.le_of_ble_eq_true rfl) rfl
theorem s21_15 : aW d 21 15 [l0, l1, l2, .int a] S h Q = aW d 21 16 [l0, l1, l2, .int a] (.int a :: S) h Q := ax_iload_n mt21 dX2_isOne_15 rfl
theorem s21_16 : aW d 21 16 L S h Q = aW d 21 19 L (.ref 1 :: S) h Q := ax_gets mt21 dX2_isOne_16 (by decide) st_8205
theorem s21_19 {n : Nat} (hT : gT h o = some (100, n) ∧ o = 0 ∨ gT h o = some (101, n) ∧ o = 1) : aW d 21 19 L (.ref o :: S) h Q = aW d 21 20 L (.int (nI n) :: S) h Q := ax_alen mt21 dX2_isOne_19 hT
theorem s21_20 : aW d 21 20 L (.int b :: .int a :: S) h Q = (if a < b then aW d 21 23 L S h Q else aW d 21 46 L S h Q) := ax_icmp_ge mt21 dX2_isOne_20 (by decide)
theorem s21_23 : aW d 21 23 [l0, l1, .int a, l3] S h Q = aW d 21 24 [l0, l1, .int a, l3] (.int a :: S) h Q := ax_iload_n mt21 dX2_isOne_23 rfl
theorem s21_24 : aW d 21 24 L (.int a :: S) h Q = (if a < 0 then aW d 21 46 L S h Q else aW d 21 27 L S h Q) := ax_if_lt mt21 dX2_isOne_24 (by decide)
theorem s21_27 : aW d 21 27 [l0, l1, .int a, l3] S h Q = aW d 21 28 [l0, l1, .int a, l3] (.int a :: S) h Q := ax_iload_n mt21 dX2_isOne_27 rfl
theorem s21_28 : aW d 21 28 [l0, .int a, l2, l3] S h Q = aW d 21 29 [l0, .int a, l2, l3] (.int a :: S) h Q := ax_iload_n mt21 dX2_isOne_28 rfl
theorem s21_29 : aW d 21 29 L (.int b :: .int a :: S) h Q = (if a = b then aW d 21 32 L S h Q else aW d 21 34 L S h Q) := ax_icmp_ne mt21 dX2_isOne_29 (by decide)
theorem s21_32 : aW d 21 32 L S h Q = aW d 21 33 L (.int (nI 1) :: S) h Q := ax_iconst mt21 dX2_isOne_32 ic_1
theorem s21_33 : aW d 21 33 L [.int a] h Q = (b01 a ∧ Q (some (.int a)) h) := ax_retz mt21 dX2_isOne_33 rfl
theorem s21_34 : aW d 21 34 L S h Q = aW d 21 37 L (.ref 1 :: S) h Q := ax_gets mt21 dX2_isOne_34 (by decide) st_8205
theorem s21_37 : aW d 21 37 [l0, l1, .int a, l3] S h Q = aW d 21 38 [l0, l1, .int a, l3] (.int a :: S) h Q := ax_iload_n mt21 dX2_isOne_37 rfl
theorem s21_38 : aW d 21 38 L (.int a :: .ref o :: S) h Q = (inb a (aI h o) ∧ aW d 21 39 L (.int (gI h o a.toNatClampNeg) :: S) h Q) := ax_iald mt21 dX2_isOne_38
theorem s21_39 : aW d 21 39 [l0, l1, l2, l3] (.int a :: S) h Q = aW d 21 40 [l0, l1, .int a, l3] S h Q := ax_istore_n mt21 dX2_isOne_39 (Nat.le_of_ble_eq_true rfl) rfl
theorem s21_40 : aW d 21 40 [l0, l1, l2, .int a] S h Q = aW d 21 43 [l0, l1, l2, .int (a + nI 1)] S h Q := ax_iinc mt21 dX2_isOne_40 rfl ic_1 rfl
theorem s21_43 : aW d 21 43 L S h Q = aW d 21 15 L S h Q := ax_goto mt21 dX2_isOne_43 (by decide)
theorem s21_46 : aW d 21 46 L S h Q = aW d 21 47 L (.int (nI 0) :: S) h Q := ax_iconst mt21 dX2_isOne_46 ic_0
theorem s21_47 : aW d 21 47 L [.int a] h Q = (b01 a ∧ Q (some (.int a)) h) := ax_retz mt21 dX2_isOne_47 rfl
theorem s21_11 : aW d 21 11 L S h Q = aW d 21 12 L (.int ((-1)) :: S) h Q := ax_iconst mt21 dX2_isOne_11 ic_m1
-- method 22: BufferRoom$Kinds.isOver(I)Z
theorem dX2_isOver_0 : decode cX2_isOver 0 = .ok (.iload_n 0, 1) := by decide +kernel
theorem dX2_isOver_1 : decode cX2_isOver 1 = .ok (.iconst 2, 1) := by decide +kernel
theorem dX2_isOver_2 : decode cX2_isOver 2 = .ok (.invokestatic 17, 3) := by decide +kernel
theorem dX2_isOver_5 : decode cX2_isOver 5 = .ok (.ireturn, 1) := by decide +kernel
theorem s22_0 : aW d 22 0 [.int a] S h Q = aW d 22 1 [.int a] (.int a :: S) h Q := ax_iload_n mt22 dX2_isOver_0 rfl
theorem s22_1 : aW d 22 1 L S h Q = aW d 22 2 L (.int (nI 2) :: S) h Q := ax_iconst mt22 dX2_isOver_1 ic_2
theorem s22_2 : aW (d + 1) 22 2 L (.int x1 :: .int x0 :: []) h Q = aM d 21 [.int x0, .int x1] h (fun v h1 => aW (d + 1) 22 5 L (ab_ps v []) h1 Q) := ax_invs mt22 dX2_isOver_2 (by decide) ct_8209 (.inl rfl) mt21 ⟨⟨Nat.le_of_ble_eq_true rfl, Nat.le_of_ble_eq_true rfl, Nat.le_of_ble_eq_true rfl⟩, rfl, rfl⟩
theorem s22_5 : aW d 22 5 L [.int a] h Q = (b01 a ∧ Q (some (.int a)) h) := ax_retz mt22 dX2_isOver_5 rfl
-- method 23: BufferRoom$Kinds.ticks(II)I
theorem dX2_ticks_0 : decode cX2_ticks 0 = .ok (.iload_n 0, 1) := by decide +kernel
theorem dX2_ticks_1 : decode cX2_ticks 1 = .ok (.tableswitch 49 1 4 #[31, 49, 37, 45], 31) := by decide +kernel
theorem dX2_ticks_32 : decode cX2_ticks 32 = .ok (.iload_n 1, 1) := by decide +kernel
theorem dX2_ticks_33 : decode cX2_ticks 33 = .ok (.iconst 1, 1) := by decide +kernel
theorem dX2_ticks_34 : decode cX2_ticks 34 = .ok (.iadd, 1) := by decide +kernel
theorem dX2_ticks_35 : decode cX2_ticks 35 = .ok (.iconst 2, 1) := by decide +kernel
theorem dX2_ticks_36 : decode cX2_ticks 36 = .ok (.idiv, 1) := by decide +kernel
theorem dX2_ticks_37 : decode cX2_ticks 37 = .ok (.ireturn, 1) := by decide +kernel
theorem dX2_ticks_38 : decode cX2_ticks 38 = .ok (.iload_n 1, 1) := by decide +kernel
theorem dX2_ticks_39 : decode cX2_ticks 39 = .ok (.iconst 1, 1) := by decide +kernel
theorem dX2_ticks_40 : decode cX2_ticks 40 = .ok (.iadd, 1) := by decide +kernel
theorem dX2_ticks_41 : decode cX2_ticks 41 = .ok (.iconst 2, 1) := by decide +kernel
theorem dX2_ticks_42 : decode cX2_ticks 42 = .ok (.idiv, 1) := by decide +kernel
theorem dX2_ticks_43 : decode cX2_ticks 43 = .ok (.iconst 2, 1) := by decide +kernel
theorem dX2_ticks_44 : decode cX2_ticks 44 = .ok (.iadd, 1) := by decide +kernel
theorem dX2_ticks_45 : decode cX2_ticks 45 = .ok (.ireturn, 1) := by decide +kernel
theorem dX2_ticks_46 : decode cX2_ticks 46 = .ok (.iconst 3, 1) := by decide +kernel
theorem dX2_ticks_47 : decode cX2_ticks 47 = .ok (.iload_n 1, 1) := by decide +kernel
theorem dX2_ticks_48 : decode cX2_ticks 48 = .ok (.imul, 1) := by decide +kernel
theorem dX2_ticks_49 : decode cX2_ticks 49 = .ok (.ireturn, 1) := by decide +kernel
theorem dX2_ticks_50 : decode cX2_ticks 50 = .ok (.iload_n 1, 1) := by decide +kernel
theorem dX2_ticks_51 : decode cX2_ticks 51 = .ok (.ireturn, 1) := by decide +kernel
theorem s23_0 : aW d 23 0 [.int a, l1] S h Q = aW d 23 1 [.int a, l1] (.int a :: S) h Q := ax_iload_n mt23 dX2_ticks_0 rfl
set_option maxRecDepth 100000 in
theorem s23_1 : aW d 23 1 L (.int a :: S) h Q = (if a = nI 1 then aW d 23 32 L S h Q else (if a = nI 2 then aW d 23 50 L S h Q else (if a = nI 3 then aW d 23 38 L S h Q else (if a = nI 4 then aW d 23 46 L S h Q else aW d 23 50 L S h Q)))) := by
  by_cases e0 : a = nI 1
  · rw [if_pos e0]
    subst e0
    exact ax_tabI (off := 31) mt23 dX2_ticks_1 (by decide +kernel) (by decide +kernel) (by decide)
  rw [if_neg e0]
  have k0 := lv_neT e0 (show (nI 1 : Int32).toInt = 1 by decide +kernel)
  by_cases e1 : a = nI 2
  · rw [if_pos e1]
    subst e1
    exact ax_tabI (off := 49) mt23 dX2_ticks_1 (by decide +kernel) (by decide +kernel) (by decide)
  rw [if_neg e1]
  have k1 := lv_neT e1 (show (nI 2 : Int32).toInt = 2 by decide +kernel)
  by_cases e2 : a = nI 3
  · rw [if_pos e2]
    subst e2
    exact ax_tabI (off := 37) mt23 dX2_ticks_1 (by decide +kernel) (by decide +kernel) (by decide)
  rw [if_neg e2]
  have k2 := lv_neT e2 (show (nI 3 : Int32).toInt = 3 by decide +kernel)
  by_cases e3 : a = nI 4
  · rw [if_pos e3]
    subst e3
    exact ax_tabI (off := 45) mt23 dX2_ticks_1 (by decide +kernel) (by decide +kernel) (by decide)
  rw [if_neg e3]
  have k3 := lv_neT e3 (show (nI 4 : Int32).toInt = 4 by decide +kernel)
  exact ax_tabO mt23 dX2_ticks_1 (by omega) (by decide)
theorem s23_46 : aW d 23 46 L S h Q = aW d 23 47 L (.int (nI 3) :: S) h Q := ax_iconst mt23 dX2_ticks_46 ic_3
theorem s23_47 : aW d 23 47 [l0, .int a] S h Q = aW d 23 48 [l0, .int a] (.int a :: S) h Q := ax_iload_n mt23 dX2_ticks_47 rfl
theorem s23_48 : aW d 23 48 L (.int b :: .int a :: S) h Q = aW d 23 49 L (.int (a * b) :: S) h Q := ax_imul mt23 dX2_ticks_48
theorem s23_49 : aW d 23 49 L [.int a] h Q = Q (some (.int a)) h := ax_reti mt23 dX2_ticks_49 rfl
theorem s23_38 : aW d 23 38 [l0, .int a] S h Q = aW d 23 39 [l0, .int a] (.int a :: S) h Q := ax_iload_n mt23 dX2_ticks_38 rfl
theorem s23_39 : aW d 23 39 L S h Q = aW d 23 40 L (.int (nI 1) :: S) h Q := ax_iconst mt23 dX2_ticks_39 ic_1
theorem s23_40 : aW d 23 40 L (.int b :: .int a :: S) h Q = aW d 23 41 L (.int (a + b) :: S) h Q := ax_iadd mt23 dX2_ticks_40
theorem s23_41 : aW d 23 41 L S h Q = aW d 23 42 L (.int (nI 2) :: S) h Q := ax_iconst mt23 dX2_ticks_41 ic_2
theorem s23_42 : aW d 23 42 L (.int b :: .int a :: S) h Q = ((¬ b = 0) ∧ aW d 23 43 L (.int (a / b) :: S) h Q) := ax_idiv mt23 dX2_ticks_42
theorem s23_43 : aW d 23 43 L S h Q = aW d 23 44 L (.int (nI 2) :: S) h Q := ax_iconst mt23 dX2_ticks_43 ic_2
theorem s23_44 : aW d 23 44 L (.int b :: .int a :: S) h Q = aW d 23 45 L (.int (a + b) :: S) h Q := ax_iadd mt23 dX2_ticks_44
theorem s23_45 : aW d 23 45 L [.int a] h Q = Q (some (.int a)) h := ax_reti mt23 dX2_ticks_45 rfl
theorem s23_32 : aW d 23 32 [l0, .int a] S h Q = aW d 23 33 [l0, .int a] (.int a :: S) h Q := ax_iload_n mt23 dX2_ticks_32 rfl
theorem s23_33 : aW d 23 33 L S h Q = aW d 23 34 L (.int (nI 1) :: S) h Q := ax_iconst mt23 dX2_ticks_33 ic_1
theorem s23_34 : aW d 23 34 L (.int b :: .int a :: S) h Q = aW d 23 35 L (.int (a + b) :: S) h Q := ax_iadd mt23 dX2_ticks_34
theorem s23_35 : aW d 23 35 L S h Q = aW d 23 36 L (.int (nI 2) :: S) h Q := ax_iconst mt23 dX2_ticks_35 ic_2
theorem s23_36 : aW d 23 36 L (.int b :: .int a :: S) h Q = ((¬ b = 0) ∧ aW d 23 37 L (.int (a / b) :: S) h Q) := ax_idiv mt23 dX2_ticks_36
theorem s23_37 : aW d 23 37 L [.int a] h Q = Q (some (.int a)) h := ax_reti mt23 dX2_ticks_37 rfl
theorem s23_50 : aW d 23 50 [l0, .int a] S h Q = aW d 23 51 [l0, .int a] (.int a :: S) h Q := ax_iload_n mt23 dX2_ticks_50 rfl
theorem s23_51 : aW d 23 51 L [.int a] h Q = Q (some (.int a)) h := ax_reti mt23 dX2_ticks_51 rfl
-- method 24: BufferRoom$Kinds.scratch(III)I
theorem dX2_scratch_0 : decode cX2_scratch 0 = .ok (.iload_n 0, 1) := by decide +kernel
theorem dX2_scratch_1 : decode cX2_scratch 1 = .ok (.tableswitch 50 2 5 #[31, 33, 41, 45], 31) := by decide +kernel
theorem dX2_scratch_32 : decode cX2_scratch 32 = .ok (.iload_n 2, 1) := by decide +kernel
theorem dX2_scratch_33 : decode cX2_scratch 33 = .ok (.ireturn, 1) := by decide +kernel
theorem dX2_scratch_34 : decode cX2_scratch 34 = .ok (.iload_n 1, 1) := by decide +kernel
theorem dX2_scratch_35 : decode cX2_scratch 35 = .ok (.iload_n 2, 1) := by decide +kernel
theorem dX2_scratch_36 : decode cX2_scratch 36 = .ok (.invokestatic 21, 3) := by decide +kernel
theorem dX2_scratch_39 : decode cX2_scratch 39 = .ok (.iconst 2, 1) := by decide +kernel
theorem dX2_scratch_40 : decode cX2_scratch 40 = .ok (.idiv, 1) := by decide +kernel
theorem dX2_scratch_41 : decode cX2_scratch 41 = .ok (.ireturn, 1) := by decide +kernel
theorem dX2_scratch_42 : decode cX2_scratch 42 = .ok (.iload_n 2, 1) := by decide +kernel
theorem dX2_scratch_43 : decode cX2_scratch 43 = .ok (.iload_n 1, 1) := by decide +kernel
theorem dX2_scratch_44 : decode cX2_scratch 44 = .ok (.iadd, 1) := by decide +kernel
theorem dX2_scratch_45 : decode cX2_scratch 45 = .ok (.ireturn, 1) := by decide +kernel
theorem dX2_scratch_46 : decode cX2_scratch 46 = .ok (.iload_n 2, 1) := by decide +kernel
theorem dX2_scratch_47 : decode cX2_scratch 47 = .ok (.bipush 8, 2) := by decide +kernel
theorem dX2_scratch_49 : decode cX2_scratch 49 = .ok (.idiv, 1) := by decide +kernel
theorem dX2_scratch_50 : decode cX2_scratch 50 = .ok (.ireturn, 1) := by decide +kernel
theorem dX2_scratch_51 : decode cX2_scratch 51 = .ok (.iconst 0, 1) := by decide +kernel
theorem dX2_scratch_52 : decode cX2_scratch 52 = .ok (.ireturn, 1) := by decide +kernel
theorem s24_0 : aW d 24 0 [.int a, l1, l2] S h Q = aW d 24 1 [.int a, l1, l2] (.int a :: S) h Q := ax_iload_n mt24 dX2_scratch_0 rfl
set_option maxRecDepth 100000 in
theorem s24_1 : aW d 24 1 L (.int a :: S) h Q = (if a = nI 2 then aW d 24 32 L S h Q else (if a = nI 3 then aW d 24 34 L S h Q else (if a = nI 4 then aW d 24 42 L S h Q else (if a = nI 5 then aW d 24 46 L S h Q else aW d 24 51 L S h Q)))) := by
  by_cases e0 : a = nI 2
  · rw [if_pos e0]
    subst e0
    exact ax_tabI (off := 31) mt24 dX2_scratch_1 (by decide +kernel) (by decide +kernel) (by decide)
  rw [if_neg e0]
  have k0 := lv_neT e0 (show (nI 2 : Int32).toInt = 2 by decide +kernel)
  by_cases e1 : a = nI 3
  · rw [if_pos e1]
    subst e1
    exact ax_tabI (off := 33) mt24 dX2_scratch_1 (by decide +kernel) (by decide +kernel) (by decide)
  rw [if_neg e1]
  have k1 := lv_neT e1 (show (nI 3 : Int32).toInt = 3 by decide +kernel)
  by_cases e2 : a = nI 4
  · rw [if_pos e2]
    subst e2
    exact ax_tabI (off := 41) mt24 dX2_scratch_1 (by decide +kernel) (by decide +kernel) (by decide)
  rw [if_neg e2]
  have k2 := lv_neT e2 (show (nI 4 : Int32).toInt = 4 by decide +kernel)
  by_cases e3 : a = nI 5
  · rw [if_pos e3]
    subst e3
    exact ax_tabI (off := 45) mt24 dX2_scratch_1 (by decide +kernel) (by decide +kernel) (by decide)
  rw [if_neg e3]
  have k3 := lv_neT e3 (show (nI 5 : Int32).toInt = 5 by decide +kernel)
  exact ax_tabO mt24 dX2_scratch_1 (by omega) (by decide)
theorem s24_46 : aW d 24 46 [l0, l1, .int a] S h Q = aW d 24 47 [l0, l1, .int a] (.int a :: S) h Q := ax_iload_n mt24 dX2_scratch_46 rfl
theorem s24_47 : aW d 24 47 L S h Q = aW d 24 49 L (.int (nI 8) :: S) h Q := ax_bipush mt24 dX2_scratch_47 bp_8
theorem s24_49 : aW d 24 49 L (.int b :: .int a :: S) h Q = ((¬ b = 0) ∧ aW d 24 50 L (.int (a / b) :: S) h Q) := ax_idiv mt24 dX2_scratch_49
theorem s24_50 : aW d 24 50 L [.int a] h Q = Q (some (.int a)) h := ax_reti mt24 dX2_scratch_50 rfl
theorem s24_42 : aW d 24 42 [l0, l1, .int a] S h Q = aW d 24 43 [l0, l1, .int a] (.int a :: S) h Q := ax_iload_n mt24 dX2_scratch_42 rfl
theorem s24_43 : aW d 24 43 [l0, .int a, l2] S h Q = aW d 24 44 [l0, .int a, l2] (.int a :: S) h Q := ax_iload_n mt24 dX2_scratch_43 rfl
theorem s24_44 : aW d 24 44 L (.int b :: .int a :: S) h Q = aW d 24 45 L (.int (a + b) :: S) h Q := ax_iadd mt24 dX2_scratch_44
theorem s24_45 : aW d 24 45 L [.int a] h Q = Q (some (.int a)) h := ax_reti mt24 dX2_scratch_45 rfl
theorem s24_34 : aW d 24 34 [l0, .int a, l2] S h Q = aW d 24 35 [l0, .int a, l2] (.int a :: S) h Q := ax_iload_n mt24 dX2_scratch_34 rfl
theorem s24_35 : aW d 24 35 [l0, l1, .int a] S h Q = aW d 24 36 [l0, l1, .int a] (.int a :: S) h Q := ax_iload_n mt24 dX2_scratch_35 rfl
theorem s24_36 : aW (d + 1) 24 36 L (.int b :: .int a :: []) h Q = aW (d + 1) 24 39 L (.int (iMax a b) :: []) h Q := ax_max mt24 dX2_scratch_36 (by decide) ct_8213 (Nat.le_of_ble_eq_true rfl)
theorem s24_39 : aW d 24 39 L S h Q = aW d 24 40 L (.int (nI 2) :: S) h Q := ax_iconst mt24 dX2_scratch_39 ic_2
theorem s24_40 : aW d 24 40 L (.int b :: .int a :: S) h Q = ((¬ b = 0) ∧ aW d 24 41 L (.int (a / b) :: S) h Q) := ax_idiv mt24 dX2_scratch_40
theorem s24_41 : aW d 24 41 L [.int a] h Q = Q (some (.int a)) h := ax_reti mt24 dX2_scratch_41 rfl
theorem s24_32 : aW d 24 32 [l0, l1, .int a] S h Q = aW d 24 33 [l0, l1, .int a] (.int a :: S) h Q := ax_iload_n mt24 dX2_scratch_32 rfl
theorem s24_33 : aW d 24 33 L [.int a] h Q = Q (some (.int a)) h := ax_reti mt24 dX2_scratch_33 rfl
theorem s24_51 : aW d 24 51 L S h Q = aW d 24 52 L (.int (nI 0) :: S) h Q := ax_iconst mt24 dX2_scratch_51 ic_0
theorem s24_52 : aW d 24 52 L [.int a] h Q = Q (some (.int a)) h := ax_reti mt24 dX2_scratch_52 rfl
-- method 25: BufferRoom$Loads.<init>()V
theorem dX3_init_0 : decode cX3_init 0 = .ok (.aload_n 0, 1) := by decide +kernel
theorem dX3_init_1 : decode cX3_init 1 = .ok (.invokespecial 3, 3) := by decide +kernel
theorem dX3_init_4 : decode cX3_init 4 = .ok (.aload_n 0, 1) := by decide +kernel
theorem dX3_init_5 : decode cX3_init 5 = .ok (.bipush 12, 2) := by decide +kernel
theorem dX3_init_7 : decode cX3_init 7 = .ok (.newarray .int, 2) := by decide +kernel
theorem dX3_init_9 : decode cX3_init 9 = .ok (.putfield 9, 3) := by decide +kernel
theorem dX3_init_12 : decode cX3_init 12 = .ok (.aload_n 0, 1) := by decide +kernel
theorem dX3_init_13 : decode cX3_init 13 = .ok (.bipush 10, 2) := by decide +kernel
theorem dX3_init_15 : decode cX3_init 15 = .ok (.newarray .int, 2) := by decide +kernel
theorem dX3_init_17 : decode cX3_init 17 = .ok (.putfield 15, 3) := by decide +kernel
theorem dX3_init_20 : decode cX3_init 20 = .ok (.aload_n 0, 1) := by decide +kernel
theorem dX3_init_21 : decode cX3_init 21 = .ok (.bipush 10, 2) := by decide +kernel
theorem dX3_init_23 : decode cX3_init 23 = .ok (.newarray .boolean, 2) := by decide +kernel
theorem dX3_init_25 : decode cX3_init 25 = .ok (.putfield 18, 3) := by decide +kernel
theorem dX3_init_28 : decode cX3_init 28 = .ok (.return_, 1) := by decide +kernel
theorem s25_0 : aW d 25 0 [.ref o] S h Q = aW d 25 1 [.ref o] (.ref o :: S) h Q := ax_aload_n mt25 dX3_init_0 rfl
theorem s25_1 : aW (d + 1) 25 1 L (.ref o :: []) h Q = aW (d + 1) 25 4 L [] h Q := ax_obj mt25 dX3_init_1 (by decide) ct_12291 (Nat.le_of_ble_eq_true rfl)
theorem s25_4 : aW d 25 4 [.ref o] S h Q = aW d 25 5 [.ref o] (.ref o :: S) h Q := ax_aload_n mt25 dX3_init_4 rfl
theorem s25_5 : aW d 25 5 L S h Q = aW d 25 7 L (.int (nI 12) :: S) h Q := ax_bipush mt25 dX3_init_5 bp_12
theorem s25_7 (hn : ¬ a < 0 ∧ a.toNatClampNeg ≤ 100000) : aW d 25 7 L (.int a :: S) h Q = aW d 25 9 L (.ref h.1.length :: S) (nO h 0 a.toNatClampNeg) Q := ax_newi mt25 dX3_init_7 hn
theorem s25_9 (hT : gT h o = some (5, 4)) : aW d 25 9 L (.ref o2 :: .ref o :: S) h Q = aW d 25 12 L S (pR h o 1 (.ref o2)) Q := ax_puta mt25 dX3_init_9 (by decide) ft_12297 (fun q => q.2 ⟨rfl, rfl, rfl⟩) fp_12297 hT
theorem s25_12 : aW d 25 12 [.ref o] S h Q = aW d 25 13 [.ref o] (.ref o :: S) h Q := ax_aload_n mt25 dX3_init_12 rfl
theorem s25_13 : aW d 25 13 L S h Q = aW d 25 15 L (.int (nI 10) :: S) h Q := ax_bipush mt25 dX3_init_13 bp_10
theorem s25_15 (hn : ¬ a < 0 ∧ a.toNatClampNeg ≤ 100000) : aW d 25 15 L (.int a :: S) h Q = aW d 25 17 L (.ref h.1.length :: S) (nO h 0 a.toNatClampNeg) Q := ax_newi mt25 dX3_init_15 hn
theorem s25_17 (hT : gT h o = some (5, 4)) : aW d 25 17 L (.ref o2 :: .ref o :: S) h Q = aW d 25 20 L S (pR h o 2 (.ref o2)) Q := ax_puta mt25 dX3_init_17 (by decide) ft_12303 (fun q => q.2 ⟨rfl, rfl, rfl⟩) fp_12303 hT
theorem s25_20 : aW d 25 20 [.ref o] S h Q = aW d 25 21 [.ref o] (.ref o :: S) h Q := ax_aload_n mt25 dX3_init_20 rfl
theorem s25_21 : aW d 25 21 L S h Q = aW d 25 23 L (.int (nI 10) :: S) h Q := ax_bipush mt25 dX3_init_21 bp_10
theorem s25_23 (hn : ¬ a < 0 ∧ a.toNatClampNeg ≤ 100000) : aW d 25 23 L (.int a :: S) h Q = aW d 25 25 L (.ref h.1.length :: S) (nO h 1 a.toNatClampNeg) Q := ax_newz mt25 dX3_init_23 hn
theorem s25_25 (hT : gT h o = some (5, 4)) : aW d 25 25 L (.ref o2 :: .ref o :: S) h Q = aW d 25 28 L S (pR h o 3 (.ref o2)) Q := ax_puta mt25 dX3_init_25 (by decide) ft_12306 (fun q => q.2 ⟨rfl, rfl, rfl⟩) fp_12306 hT
theorem s25_28 : aW d 25 28 L [] h Q = Q none h := ax_retv mt25 dX3_init_28 rfl
-- method 26: BufferRoom$Loads.measure(LBufferRoom$Program;[I)V
theorem dX3_measure_0 : decode cX3_measure 0 = .ok (.aload_n 0, 1) := by decide +kernel
theorem dX3_measure_1 : decode cX3_measure 1 = .ok (.aload_n 1, 1) := by decide +kernel
theorem dX3_measure_2 : decode cX3_measure 2 = .ok (.putfield 22, 3) := by decide +kernel
theorem dX3_measure_5 : decode cX3_measure 5 = .ok (.iconst 0, 1) := by decide +kernel
theorem dX3_measure_6 : decode cX3_measure 6 = .ok (.istore_n 3, 1) := by decide +kernel
theorem dX3_measure_7 : decode cX3_measure 7 = .ok (.iload_n 3, 1) := by decide +kernel
theorem dX3_measure_8 : decode cX3_measure 8 = .ok (.bipush 12, 2) := by decide +kernel
theorem dX3_measure_10 : decode cX3_measure 10 = .ok (.if_icmp .ge 24, 3) := by decide +kernel
theorem dX3_measure_13 : decode cX3_measure 13 = .ok (.aload_n 0, 1) := by decide +kernel
theorem dX3_measure_14 : decode cX3_measure 14 = .ok (.getfield 9, 3) := by decide +kernel
theorem dX3_measure_17 : decode cX3_measure 17 = .ok (.iload_n 3, 1) := by decide +kernel
theorem dX3_measure_18 : decode cX3_measure 18 = .ok (.aload_n 0, 1) := by decide +kernel
theorem dX3_measure_19 : decode cX3_measure 19 = .ok (.getfield 22, 3) := by decide +kernel
theorem dX3_measure_22 : decode cX3_measure 22 = .ok (.iload_n 3, 1) := by decide +kernel
theorem dX3_measure_23 : decode cX3_measure 23 = .ok (.aload_n 2, 1) := by decide +kernel
theorem dX3_measure_24 : decode cX3_measure 24 = .ok (.invokevirtual 26, 3) := by decide +kernel
theorem dX3_measure_27 : decode cX3_measure 27 = .ok (.iastore, 1) := by decide +kernel
theorem dX3_measure_28 : decode cX3_measure 28 = .ok (.iinc 3 1, 3) := by decide +kernel
theorem dX3_measure_31 : decode cX3_measure 31 = .ok (.goto (-24), 3) := by decide +kernel
theorem dX3_measure_34 : decode cX3_measure 34 = .ok (.iconst 0, 1) := by decide +kernel
theorem dX3_measure_35 : decode cX3_measure 35 = .ok (.istore_n 3, 1) := by decide +kernel
theorem dX3_measure_36 : decode cX3_measure 36 = .ok (.iload_n 3, 1) := by decide +kernel
theorem dX3_measure_37 : decode cX3_measure 37 = .ok (.aload_n 0, 1) := by decide +kernel
theorem dX3_measure_38 : decode cX3_measure 38 = .ok (.getfield 22, 3) := by decide +kernel
theorem dX3_measure_41 : decode cX3_measure 41 = .ok (.getfield 32, 3) := by decide +kernel
theorem dX3_measure_44 : decode cX3_measure 44 = .ok (.if_icmp .ge 113, 3) := by decide +kernel
theorem dX3_measure_47 : decode cX3_measure 47 = .ok (.iconst 0, 1) := by decide +kernel
theorem dX3_measure_48 : decode cX3_measure 48 = .ok (.istore 4, 2) := by decide +kernel
theorem dX3_measure_50 : decode cX3_measure 50 = .ok (.iload_n 3, 1) := by decide +kernel
theorem dX3_measure_51 : decode cX3_measure 51 = .ok (.iconst 4, 1) := by decide +kernel
theorem dX3_measure_52 : decode cX3_measure 52 = .ok (.imul, 1) := by decide +kernel
theorem dX3_measure_53 : decode cX3_measure 53 = .ok (.istore 5, 2) := by decide +kernel
theorem dX3_measure_55 : decode cX3_measure 55 = .ok (.iload 5, 2) := by decide +kernel
theorem dX3_measure_57 : decode cX3_measure 57 = .ok (.iload_n 3, 1) := by decide +kernel
theorem dX3_measure_58 : decode cX3_measure 58 = .ok (.iconst 4, 1) := by decide +kernel
theorem dX3_measure_59 : decode cX3_measure 59 = .ok (.imul, 1) := by decide +kernel
theorem dX3_measure_60 : decode cX3_measure 60 = .ok (.aload_n 0, 1) := by decide +kernel
theorem dX3_measure_61 : decode cX3_measure 61 = .ok (.getfield 22, 3) := by decide +kernel
theorem dX3_measure_64 : decode cX3_measure 64 = .ok (.getfield 36, 3) := by decide +kernel
theorem dX3_measure_67 : decode cX3_measure 67 = .ok (.iload_n 3, 1) := by decide +kernel
theorem dX3_measure_68 : decode cX3_measure 68 = .ok (.iaload, 1) := by decide +kernel
theorem dX3_measure_69 : decode cX3_measure 69 = .ok (.iadd, 1) := by decide +kernel
theorem dX3_measure_70 : decode cX3_measure 70 = .ok (.if_icmp .ge 29, 3) := by decide +kernel
theorem dX3_measure_73 : decode cX3_measure 73 = .ok (.iload 4, 2) := by decide +kernel
theorem dX3_measure_75 : decode cX3_measure 75 = .ok (.aload_n 0, 1) := by decide +kernel
theorem dX3_measure_76 : decode cX3_measure 76 = .ok (.getfield 9, 3) := by decide +kernel
theorem dX3_measure_79 : decode cX3_measure 79 = .ok (.aload_n 0, 1) := by decide +kernel
theorem dX3_measure_80 : decode cX3_measure 80 = .ok (.getfield 22, 3) := by decide +kernel
theorem dX3_measure_83 : decode cX3_measure 83 = .ok (.getfield 39, 3) := by decide +kernel
theorem dX3_measure_86 : decode cX3_measure 86 = .ok (.iload 5, 2) := by decide +kernel
theorem dX3_measure_88 : decode cX3_measure 88 = .ok (.iaload, 1) := by decide +kernel
theorem dX3_measure_89 : decode cX3_measure 89 = .ok (.iaload, 1) := by decide +kernel
theorem dX3_measure_90 : decode cX3_measure 90 = .ok (.iadd, 1) := by decide +kernel
theorem dX3_measure_91 : decode cX3_measure 91 = .ok (.istore 4, 2) := by decide +kernel
theorem dX3_measure_93 : decode cX3_measure 93 = .ok (.iinc 5 1, 3) := by decide +kernel
theorem dX3_measure_96 : decode cX3_measure 96 = .ok (.goto (-41), 3) := by decide +kernel
theorem dX3_measure_99 : decode cX3_measure 99 = .ok (.aload_n 0, 1) := by decide +kernel
theorem dX3_measure_100 : decode cX3_measure 100 = .ok (.getfield 15, 3) := by decide +kernel
theorem dX3_measure_103 : decode cX3_measure 103 = .ok (.iload_n 3, 1) := by decide +kernel
theorem dX3_measure_104 : decode cX3_measure 104 = .ok (.aload_n 0, 1) := by decide +kernel
theorem dX3_measure_105 : decode cX3_measure 105 = .ok (.getfield 22, 3) := by decide +kernel
theorem dX3_measure_108 : decode cX3_measure 108 = .ok (.getfield 42, 3) := by decide +kernel
theorem dX3_measure_111 : decode cX3_measure 111 = .ok (.iload_n 3, 1) := by decide +kernel
theorem dX3_measure_112 : decode cX3_measure 112 = .ok (.iaload, 1) := by decide +kernel
theorem dX3_measure_113 : decode cX3_measure 113 = .ok (.iload 4, 2) := by decide +kernel
theorem dX3_measure_115 : decode cX3_measure 115 = .ok (.aload_n 0, 1) := by decide +kernel
theorem dX3_measure_116 : decode cX3_measure 116 = .ok (.getfield 9, 3) := by decide +kernel
theorem dX3_measure_119 : decode cX3_measure 119 = .ok (.aload_n 0, 1) := by decide +kernel
theorem dX3_measure_120 : decode cX3_measure 120 = .ok (.getfield 22, 3) := by decide +kernel
theorem dX3_measure_123 : decode cX3_measure 123 = .ok (.getfield 45, 3) := by decide +kernel
theorem dX3_measure_126 : decode cX3_measure 126 = .ok (.iload_n 3, 1) := by decide +kernel
theorem dX3_measure_127 : decode cX3_measure 127 = .ok (.iaload, 1) := by decide +kernel
theorem dX3_measure_128 : decode cX3_measure 128 = .ok (.iaload, 1) := by decide +kernel
theorem dX3_measure_129 : decode cX3_measure 129 = .ok (.invokestatic 48, 3) := by decide +kernel
theorem dX3_measure_132 : decode cX3_measure 132 = .ok (.iastore, 1) := by decide +kernel
theorem dX3_measure_133 : decode cX3_measure 133 = .ok (.aload_n 0, 1) := by decide +kernel
theorem dX3_measure_134 : decode cX3_measure 134 = .ok (.getfield 18, 3) := by decide +kernel
theorem dX3_measure_137 : decode cX3_measure 137 = .ok (.iload_n 3, 1) := by decide +kernel
theorem dX3_measure_138 : decode cX3_measure 138 = .ok (.aload_n 0, 1) := by decide +kernel
theorem dX3_measure_139 : decode cX3_measure 139 = .ok (.getfield 22, 3) := by decide +kernel
theorem dX3_measure_142 : decode cX3_measure 142 = .ok (.getfield 42, 3) := by decide +kernel
theorem dX3_measure_145 : decode cX3_measure 145 = .ok (.iload_n 3, 1) := by decide +kernel
theorem dX3_measure_146 : decode cX3_measure 146 = .ok (.iaload, 1) := by decide +kernel
theorem dX3_measure_147 : decode cX3_measure 147 = .ok (.invokestatic 53, 3) := by decide +kernel
theorem dX3_measure_150 : decode cX3_measure 150 = .ok (.bastore, 1) := by decide +kernel
theorem dX3_measure_151 : decode cX3_measure 151 = .ok (.iinc 3 1, 3) := by decide +kernel
theorem dX3_measure_154 : decode cX3_measure 154 = .ok (.goto (-118), 3) := by decide +kernel
theorem dX3_measure_157 : decode cX3_measure 157 = .ok (.return_, 1) := by decide +kernel
theorem s26_0 : aW d 26 0 [.ref o, l1, l2, l3, l4, l5] S h Q = aW d 26 1 [.ref o, l1, l2, l3, l4, l5] (.ref o :: S) h Q := ax_aload_n mt26 dX3_measure_0 rfl
theorem s26_1 : aW d 26 1 [l0, .ref o, l2, l3, l4, l5] S h Q = aW d 26 2 [l0, .ref o, l2, l3, l4, l5] (.ref o :: S) h Q := ax_aload_n mt26 dX3_measure_1 rfl
theorem s26_2 (hT : gT h o = some (5, 4)) : aW d 26 2 L (.ref o2 :: .ref o :: S) h Q = aW d 26 5 L S (pR h o 0 (.ref o2)) Q := ax_puta mt26 dX3_measure_2 (by decide) ft_12310 (fun q => fn_12310 q.1) fp_12310 hT
theorem s26_5 : aW d 26 5 L S h Q = aW d 26 6 L (.int (nI 0) :: S) h Q := ax_iconst mt26 dX3_measure_5 ic_0
theorem s26_6 : aW d 26 6 [l0, l1, l2, l3, l4, l5] (.int a :: S) h Q = aW d 26 7 [l0, l1, l2, .int a, l4, l5] S h Q := ax_istore_n mt26 dX3_measure_6 (Nat.le_of_ble_eq_true rfl) rfl
theorem s26_7 : aW d 26 7 [l0, l1, l2, .int a, l4, l5] S h Q = aW d 26 8 [l0, l1, l2, .int a, l4, l5] (.int a :: S) h Q := ax_iload_n mt26 dX3_measure_7 rfl
theorem s26_8 : aW d 26 8 L S h Q = aW d 26 10 L (.int (nI 12) :: S) h Q := ax_bipush mt26 dX3_measure_8 bp_12
theorem s26_10 : aW d 26 10 L (.int b :: .int a :: S) h Q = (if a < b then aW d 26 13 L S h Q else aW d 26 34 L S h Q) := ax_icmp_ge mt26 dX3_measure_10 (by decide)
theorem s26_13 : aW d 26 13 [.ref o, l1, l2, l3, l4, l5] S h Q = aW d 26 14 [.ref o, l1, l2, l3, l4, l5] (.ref o :: S) h Q := ax_aload_n mt26 dX3_measure_13 rfl
theorem s26_14 (hT : gT h o = some (5, 4)) : aW d 26 14 L (.ref o :: S) h Q = (isRf (gR h o 1) = true ∧ aW d 26 17 L (gR h o 1 :: S) h Q) := ax_geta mt26 dX3_measure_14 (by decide) ft_12297 fk_12297 hT
theorem s26_17 : aW d 26 17 [l0, l1, l2, .int a, l4, l5] S h Q = aW d 26 18 [l0, l1, l2, .int a, l4, l5] (.int a :: S) h Q := ax_iload_n mt26 dX3_measure_17 rfl
theorem s26_18 : aW d 26 18 [.ref o, l1, l2, l3, l4, l5] S h Q = aW d 26 19 [.ref o, l1, l2, l3, l4, l5] (.ref o :: S) h Q := ax_aload_n mt26 dX3_measure_18 rfl
theorem s26_19 (hT : gT h o = some (5, 4)) : aW d 26 19 L (.ref o :: S) h Q = (isRf (gR h o 0) = true ∧ aW d 26 22 L (gR h o 0 :: S) h Q) := ax_geta mt26 dX3_measure_19 (by decide) ft_12310 fk_12310 hT
theorem s26_22 : aW d 26 22 [l0, l1, l2, .int a, l4, l5] S h Q = aW d 26 23 [l0, l1, l2, .int a, l4, l5] (.int a :: S) h Q := ax_iload_n mt26 dX3_measure_22 rfl
theorem s26_23 : aW d 26 23 [l0, l1, .ref o, l3, l4, l5] S h Q = aW d 26 24 [l0, l1, .ref o, l3, l4, l5] (.ref o :: S) h Q := ax_aload_n mt26 dX3_measure_23 rfl
theorem s26_24 (hT : gT h o = some (8, 12)) : aW (d + 1) 26 24 L (.ref p1 :: .int x0 :: .ref o :: [.int y0, .ref q1]) h Q = aM d 51 (.ref o :: [.int x0, .ref p1]) h (fun v h1 => aW (d + 1) 26 27 L (ab_ps v [.int y0, .ref q1]) h1 Q) := ax_invv mt26 dX3_measure_24 (by decide) ct_12314 (.inl rfl) mt51 ⟨⟨Nat.le_of_ble_eq_true rfl, Nat.le_of_ble_eq_true rfl, Nat.le_of_ble_eq_true rfl⟩, rfl, rfl, rfl⟩ hT
theorem s26_27 : aW d 26 27 L (.int b :: .int a :: .ref o :: S) h Q = (inb a (aJ h o) ∧ aW d 26 28 L S (pI h o a.toNatClampNeg b) Q) := ax_iast mt26 dX3_measure_27
theorem s26_28 : aW d 26 28 [l0, l1, l2, .int a, l4, l5] S h Q = aW d 26 31 [l0, l1, l2, .int (a + nI 1), l4, l5] S h Q := ax_iinc mt26 dX3_measure_28 rfl ic_1 rfl
theorem s26_31 : aW d 26 31 L S h Q = aW d 26 7 L S h Q := ax_goto mt26 dX3_measure_31 (by decide)
theorem s26_34 : aW d 26 34 L S h Q = aW d 26 35 L (.int (nI 0) :: S) h Q := ax_iconst mt26 dX3_measure_34 ic_0
theorem s26_35 : aW d 26 35 [l0, l1, l2, l3, l4, l5] (.int a :: S) h Q = aW d 26 36 [l0, l1, l2, .int a, l4, l5] S h Q := ax_istore_n mt26 dX3_measure_35 (Nat.le_of_ble_eq_true rfl) rfl
theorem s26_36 : aW d 26 36 [l0, l1, l2, .int a, l4, l5] S h Q = aW d 26 37 [l0, l1, l2, .int a, l4, l5] (.int a :: S) h Q := ax_iload_n mt26 dX3_measure_36 rfl
theorem s26_37 : aW d 26 37 [.ref o, l1, l2, l3, l4, l5] S h Q = aW d 26 38 [.ref o, l1, l2, l3, l4, l5] (.ref o :: S) h Q := ax_aload_n mt26 dX3_measure_37 rfl
theorem s26_38 (hT : gT h o = some (5, 4)) : aW d 26 38 L (.ref o :: S) h Q = (isRf (gR h o 0) = true ∧ aW d 26 41 L (gR h o 0 :: S) h Q) := ax_geta mt26 dX3_measure_38 (by decide) ft_12310 fk_12310 hT
theorem s26_41 (hT : gT h o = some (8, 12)) : aW d 26 41 L (.ref o :: S) h Q = aW d 26 44 L (.int (gI h o 6) :: S) h Q := ax_geti mt26 dX3_measure_41 (by decide) ft_12320 fk_12320 hT
theorem s26_44 : aW d 26 44 L (.int b :: .int a :: S) h Q = (if a < b then aW d 26 47 L S h Q else aW d 26 157 L S h Q) := ax_icmp_ge mt26 dX3_measure_44 (by decide)
theorem s26_47 : aW d 26 47 L S h Q = aW d 26 48 L (.int (nI 0) :: S) h Q := ax_iconst mt26 dX3_measure_47 ic_0
theorem s26_48 : aW d 26 48 [l0, l1, l2, l3, l4, l5] (.int a :: S) h Q = aW d 26 50 [l0, l1, l2, l3, .int a, l5] S h Q := ax_istore mt26 dX3_measure_48 (Nat.le_of_ble_eq_true rfl) rfl
theorem s26_50 : aW d 26 50 [l0, l1, l2, .int a, l4, l5] S h Q = aW d 26 51 [l0, l1, l2, .int a, l4, l5] (.int a :: S) h Q := ax_iload_n mt26 dX3_measure_50 rfl
theorem s26_51 : aW d 26 51 L S h Q = aW d 26 52 L (.int (nI 4) :: S) h Q := ax_iconst mt26 dX3_measure_51 ic_4
theorem s26_52 : aW d 26 52 L (.int b :: .int a :: S) h Q = aW d 26 53 L (.int (a * b) :: S) h Q := ax_imul mt26 dX3_measure_52
theorem s26_53 : aW d 26 53 [l0, l1, l2, l3, l4, l5] (.int a :: S) h Q = aW d 26 55 [l0, l1, l2, l3, l4, .int a] S h Q := ax_istore mt26 dX3_measure_53 (Nat.le_of_ble_eq_true rfl) rfl
theorem s26_55 : aW d 26 55 [l0, l1, l2, l3, l4, .int a] S h Q = aW d 26 57 [l0, l1, l2, l3, l4, .int a] (.int a :: S) h Q := ax_iload mt26 dX3_measure_55 rfl
theorem s26_57 : aW d 26 57 [l0, l1, l2, .int a, l4, l5] S h Q = aW d 26 58 [l0, l1, l2, .int a, l4, l5] (.int a :: S) h Q := ax_iload_n mt26 dX3_measure_57 rfl
theorem s26_58 : aW d 26 58 L S h Q = aW d 26 59 L (.int (nI 4) :: S) h Q := ax_iconst mt26 dX3_measure_58 ic_4
theorem s26_59 : aW d 26 59 L (.int b :: .int a :: S) h Q = aW d 26 60 L (.int (a * b) :: S) h Q := ax_imul mt26 dX3_measure_59
theorem s26_60 : aW d 26 60 [.ref o, l1, l2, l3, l4, l5] S h Q = aW d 26 61 [.ref o, l1, l2, l3, l4, l5] (.ref o :: S) h Q := ax_aload_n mt26 dX3_measure_60 rfl
theorem s26_61 (hT : gT h o = some (5, 4)) : aW d 26 61 L (.ref o :: S) h Q = (isRf (gR h o 0) = true ∧ aW d 26 64 L (gR h o 0 :: S) h Q) := ax_geta mt26 dX3_measure_61 (by decide) ft_12310 fk_12310 hT
theorem s26_64 (hT : gT h o = some (8, 12)) : aW d 26 64 L (.ref o :: S) h Q = (isRf (gR h o 10) = true ∧ aW d 26 67 L (gR h o 10 :: S) h Q) := ax_geta mt26 dX3_measure_64 (by decide) ft_12324 fk_12324 hT
theorem s26_67 : aW d 26 67 [l0, l1, l2, .int a, l4, l5] S h Q = aW d 26 68 [l0, l1, l2, .int a, l4, l5] (.int a :: S) h Q := ax_iload_n mt26 dX3_measure_67 rfl
theorem s26_68 : aW d 26 68 L (.int a :: .ref o :: S) h Q = (inb a (aI h o) ∧ aW d 26 69 L (.int (gI h o a.toNatClampNeg) :: S) h Q) := ax_iald mt26 dX3_measure_68
theorem s26_69 : aW d 26 69 L (.int b :: .int a :: S) h Q = aW d 26 70 L (.int (a + b) :: S) h Q := ax_iadd mt26 dX3_measure_69
theorem s26_70 : aW d 26 70 L (.int b :: .int a :: S) h Q = (if a < b then aW d 26 73 L S h Q else aW d 26 99 L S h Q) := ax_icmp_ge mt26 dX3_measure_70 (by decide)
theorem s26_73 : aW d 26 73 [l0, l1, l2, l3, .int a, l5] S h Q = aW d 26 75 [l0, l1, l2, l3, .int a, l5] (.int a :: S) h Q := ax_iload mt26 dX3_measure_73 rfl
theorem s26_75 : aW d 26 75 [.ref o, l1, l2, l3, l4, l5] S h Q = aW d 26 76 [.ref o, l1, l2, l3, l4, l5] (.ref o :: S) h Q := ax_aload_n mt26 dX3_measure_75 rfl
theorem s26_76 (hT : gT h o = some (5, 4)) : aW d 26 76 L (.ref o :: S) h Q = (isRf (gR h o 1) = true ∧ aW d 26 79 L (gR h o 1 :: S) h Q) := ax_geta mt26 dX3_measure_76 (by decide) ft_12297 fk_12297 hT
theorem s26_79 : aW d 26 79 [.ref o, l1, l2, l3, l4, l5] S h Q = aW d 26 80 [.ref o, l1, l2, l3, l4, l5] (.ref o :: S) h Q := ax_aload_n mt26 dX3_measure_79 rfl
theorem s26_80 (hT : gT h o = some (5, 4)) : aW d 26 80 L (.ref o :: S) h Q = (isRf (gR h o 0) = true ∧ aW d 26 83 L (gR h o 0 :: S) h Q) := ax_geta mt26 dX3_measure_80 (by decide) ft_12310 fk_12310 hT
theorem s26_83 (hT : gT h o = some (8, 12)) : aW d 26 83 L (.ref o :: S) h Q = (isRf (gR h o 11) = true ∧ aW d 26 86 L (gR h o 11 :: S) h Q) := ax_geta mt26 dX3_measure_83 (by decide) ft_12327 fk_12327 hT
theorem s26_86 : aW d 26 86 [l0, l1, l2, l3, l4, .int a] S h Q = aW d 26 88 [l0, l1, l2, l3, l4, .int a] (.int a :: S) h Q := ax_iload mt26 dX3_measure_86 rfl
theorem s26_88 : aW d 26 88 L (.int a :: .ref o :: S) h Q = (inb a (aI h o) ∧ aW d 26 89 L (.int (gI h o a.toNatClampNeg) :: S) h Q) := ax_iald mt26 dX3_measure_88
theorem s26_89 : aW d 26 89 L (.int a :: .ref o :: S) h Q = (inb a (aI h o) ∧ aW d 26 90 L (.int (gI h o a.toNatClampNeg) :: S) h Q) := ax_iald mt26 dX3_measure_89
theorem s26_90 : aW d 26 90 L (.int b :: .int a :: S) h Q = aW d 26 91 L (.int (a + b) :: S) h Q := ax_iadd mt26 dX3_measure_90
theorem s26_91 : aW d 26 91 [l0, l1, l2, l3, l4, l5] (.int a :: S) h Q = aW d 26 93 [l0, l1, l2, l3, .int a, l5] S h Q := ax_istore mt26 dX3_measure_91 (Nat.le_of_ble_eq_true rfl) rfl
theorem s26_93 : aW d 26 93 [l0, l1, l2, l3, l4, .int a] S h Q = aW d 26 96 [l0, l1, l2, l3, l4, .int (a + nI 1)] S h Q := ax_iinc mt26 dX3_measure_93 rfl ic_1 rfl
theorem s26_96 : aW d 26 96 L S h Q = aW d 26 55 L S h Q := ax_goto mt26 dX3_measure_96 (by decide)
theorem s26_99 : aW d 26 99 [.ref o, l1, l2, l3, l4, l5] S h Q = aW d 26 100 [.ref o, l1, l2, l3, l4, l5] (.ref o :: S) h Q := ax_aload_n mt26 dX3_measure_99 rfl
theorem s26_100 (hT : gT h o = some (5, 4)) : aW d 26 100 L (.ref o :: S) h Q = (isRf (gR h o 2) = true ∧ aW d 26 103 L (gR h o 2 :: S) h Q) := ax_geta mt26 dX3_measure_100 (by decide) ft_12303 fk_12303 hT
theorem s26_103 : aW d 26 103 [l0, l1, l2, .int a, l4, l5] S h Q = aW d 26 104 [l0, l1, l2, .int a, l4, l5] (.int a :: S) h Q := ax_iload_n mt26 dX3_measure_103 rfl
theorem s26_104 : aW d 26 104 [.ref o, l1, l2, l3, l4, l5] S h Q = aW d 26 105 [.ref o, l1, l2, l3, l4, l5] (.ref o :: S) h Q := ax_aload_n mt26 dX3_measure_104 rfl
theorem s26_105 (hT : gT h o = some (5, 4)) : aW d 26 105 L (.ref o :: S) h Q = (isRf (gR h o 0) = true ∧ aW d 26 108 L (gR h o 0 :: S) h Q) := ax_geta mt26 dX3_measure_105 (by decide) ft_12310 fk_12310 hT
theorem s26_108 (hT : gT h o = some (8, 12)) : aW d 26 108 L (.ref o :: S) h Q = (isRf (gR h o 7) = true ∧ aW d 26 111 L (gR h o 7 :: S) h Q) := ax_geta mt26 dX3_measure_108 (by decide) ft_12330 fk_12330 hT
theorem s26_111 : aW d 26 111 [l0, l1, l2, .int a, l4, l5] S h Q = aW d 26 112 [l0, l1, l2, .int a, l4, l5] (.int a :: S) h Q := ax_iload_n mt26 dX3_measure_111 rfl
theorem s26_112 : aW d 26 112 L (.int a :: .ref o :: S) h Q = (inb a (aI h o) ∧ aW d 26 113 L (.int (gI h o a.toNatClampNeg) :: S) h Q) := ax_iald mt26 dX3_measure_112
theorem s26_113 : aW d 26 113 [l0, l1, l2, l3, .int a, l5] S h Q = aW d 26 115 [l0, l1, l2, l3, .int a, l5] (.int a :: S) h Q := ax_iload mt26 dX3_measure_113 rfl
theorem s26_115 : aW d 26 115 [.ref o, l1, l2, l3, l4, l5] S h Q = aW d 26 116 [.ref o, l1, l2, l3, l4, l5] (.ref o :: S) h Q := ax_aload_n mt26 dX3_measure_115 rfl
theorem s26_116 (hT : gT h o = some (5, 4)) : aW d 26 116 L (.ref o :: S) h Q = (isRf (gR h o 1) = true ∧ aW d 26 119 L (gR h o 1 :: S) h Q) := ax_geta mt26 dX3_measure_116 (by decide) ft_12297 fk_12297 hT
theorem s26_119 : aW d 26 119 [.ref o, l1, l2, l3, l4, l5] S h Q = aW d 26 120 [.ref o, l1, l2, l3, l4, l5] (.ref o :: S) h Q := ax_aload_n mt26 dX3_measure_119 rfl
theorem s26_120 (hT : gT h o = some (5, 4)) : aW d 26 120 L (.ref o :: S) h Q = (isRf (gR h o 0) = true ∧ aW d 26 123 L (gR h o 0 :: S) h Q) := ax_geta mt26 dX3_measure_120 (by decide) ft_12310 fk_12310 hT
theorem s26_123 (hT : gT h o = some (8, 12)) : aW d 26 123 L (.ref o :: S) h Q = (isRf (gR h o 9) = true ∧ aW d 26 126 L (gR h o 9 :: S) h Q) := ax_geta mt26 dX3_measure_123 (by decide) ft_12333 fk_12333 hT
theorem s26_126 : aW d 26 126 [l0, l1, l2, .int a, l4, l5] S h Q = aW d 26 127 [l0, l1, l2, .int a, l4, l5] (.int a :: S) h Q := ax_iload_n mt26 dX3_measure_126 rfl
theorem s26_127 : aW d 26 127 L (.int a :: .ref o :: S) h Q = (inb a (aI h o) ∧ aW d 26 128 L (.int (gI h o a.toNatClampNeg) :: S) h Q) := ax_iald mt26 dX3_measure_127
theorem s26_128 : aW d 26 128 L (.int a :: .ref o :: S) h Q = (inb a (aI h o) ∧ aW d 26 129 L (.int (gI h o a.toNatClampNeg) :: S) h Q) := ax_iald mt26 dX3_measure_128
theorem s26_129 : aW (d + 1) 26 129 L (.int x2 :: .int x1 :: .int x0 :: [.int y0, .ref q1]) h Q = aM d 24 [.int x0, .int x1, .int x2] h (fun v h1 => aW (d + 1) 26 132 L (ab_ps v [.int y0, .ref q1]) h1 Q) := ax_invs mt26 dX3_measure_129 (by decide) ct_12336 (.inl rfl) mt24 ⟨⟨Nat.le_of_ble_eq_true rfl, Nat.le_of_ble_eq_true rfl, Nat.le_of_ble_eq_true rfl⟩, rfl, rfl⟩
theorem s26_132 : aW d 26 132 L (.int b :: .int a :: .ref o :: S) h Q = (inb a (aJ h o) ∧ aW d 26 133 L S (pI h o a.toNatClampNeg b) Q) := ax_iast mt26 dX3_measure_132
theorem s26_133 : aW d 26 133 [.ref o, l1, l2, l3, l4, l5] S h Q = aW d 26 134 [.ref o, l1, l2, l3, l4, l5] (.ref o :: S) h Q := ax_aload_n mt26 dX3_measure_133 rfl
theorem s26_134 (hT : gT h o = some (5, 4)) : aW d 26 134 L (.ref o :: S) h Q = (isRf (gR h o 3) = true ∧ aW d 26 137 L (gR h o 3 :: S) h Q) := ax_geta mt26 dX3_measure_134 (by decide) ft_12306 fk_12306 hT
theorem s26_137 : aW d 26 137 [l0, l1, l2, .int a, l4, l5] S h Q = aW d 26 138 [l0, l1, l2, .int a, l4, l5] (.int a :: S) h Q := ax_iload_n mt26 dX3_measure_137 rfl
theorem s26_138 : aW d 26 138 [.ref o, l1, l2, l3, l4, l5] S h Q = aW d 26 139 [.ref o, l1, l2, l3, l4, l5] (.ref o :: S) h Q := ax_aload_n mt26 dX3_measure_138 rfl
theorem s26_139 (hT : gT h o = some (5, 4)) : aW d 26 139 L (.ref o :: S) h Q = (isRf (gR h o 0) = true ∧ aW d 26 142 L (gR h o 0 :: S) h Q) := ax_geta mt26 dX3_measure_139 (by decide) ft_12310 fk_12310 hT
theorem s26_142 (hT : gT h o = some (8, 12)) : aW d 26 142 L (.ref o :: S) h Q = (isRf (gR h o 7) = true ∧ aW d 26 145 L (gR h o 7 :: S) h Q) := ax_geta mt26 dX3_measure_142 (by decide) ft_12330 fk_12330 hT
theorem s26_145 : aW d 26 145 [l0, l1, l2, .int a, l4, l5] S h Q = aW d 26 146 [l0, l1, l2, .int a, l4, l5] (.int a :: S) h Q := ax_iload_n mt26 dX3_measure_145 rfl
theorem s26_146 : aW d 26 146 L (.int a :: .ref o :: S) h Q = (inb a (aI h o) ∧ aW d 26 147 L (.int (gI h o a.toNatClampNeg) :: S) h Q) := ax_iald mt26 dX3_measure_146
theorem s26_147 : aW (d + 1) 26 147 L (.int x0 :: [.int y0, .ref q1]) h Q = aM d 22 [.int x0] h (fun v h1 => aW (d + 1) 26 150 L (ab_ps v [.int y0, .ref q1]) h1 Q) := ax_invs mt26 dX3_measure_147 (by decide) ct_12341 (.inl rfl) mt22 ⟨⟨Nat.le_of_ble_eq_true rfl, Nat.le_of_ble_eq_true rfl, Nat.le_of_ble_eq_true rfl⟩, rfl, rfl⟩
theorem s26_150 : aW d 26 150 L (.int b :: .int a :: .ref o :: S) h Q = ((inb a (aZ h o) ∧ b01 b) ∧ aW d 26 151 L S (pI h o a.toNatClampNeg b) Q) := ax_zast mt26 dX3_measure_150
theorem s26_151 : aW d 26 151 [l0, l1, l2, .int a, l4, l5] S h Q = aW d 26 154 [l0, l1, l2, .int (a + nI 1), l4, l5] S h Q := ax_iinc mt26 dX3_measure_151 rfl ic_1 rfl
theorem s26_154 : aW d 26 154 L S h Q = aW d 26 36 L S h Q := ax_goto mt26 dX3_measure_154 (by decide)
theorem s26_157 : aW d 26 157 L [] h Q = Q none h := ax_retv mt26 dX3_measure_157 rfl
-- method 27: BufferRoom$Loads.overAt(II)I
theorem dX3_overAt_0 : decode cX3_overAt 0 = .ok (.iconst (-1), 1) := by decide +kernel
theorem dX3_overAt_1 : decode cX3_overAt 1 = .ok (.istore_n 3, 1) := by decide +kernel
theorem dX3_overAt_2 : decode cX3_overAt 2 = .ok (.aload_n 0, 1) := by decide +kernel
theorem dX3_overAt_3 : decode cX3_overAt 3 = .ok (.getfield 18, 3) := by decide +kernel
theorem dX3_overAt_6 : decode cX3_overAt 6 = .ok (.iload_n 2, 1) := by decide +kernel
theorem dX3_overAt_7 : decode cX3_overAt 7 = .ok (.baload, 1) := by decide +kernel
theorem dX3_overAt_8 : decode cX3_overAt 8 = .ok (.ifCond .ne 5, 3) := by decide +kernel
theorem dX3_overAt_11 : decode cX3_overAt 11 = .ok (.iload_n 3, 1) := by decide +kernel
theorem dX3_overAt_12 : decode cX3_overAt 12 = .ok (.ireturn, 1) := by decide +kernel
theorem dX3_overAt_13 : decode cX3_overAt 13 = .ok (.iload_n 1, 1) := by decide +kernel
theorem dX3_overAt_14 : decode cX3_overAt 14 = .ok (.iconst 1, 1) := by decide +kernel
theorem dX3_overAt_15 : decode cX3_overAt 15 = .ok (.iload_n 2, 1) := by decide +kernel
theorem dX3_overAt_16 : decode cX3_overAt 16 = .ok (.ishl, 1) := by decide +kernel
theorem dX3_overAt_17 : decode cX3_overAt 17 = .ok (.ior, 1) := by decide +kernel
theorem dX3_overAt_18 : decode cX3_overAt 18 = .ok (.istore 4, 2) := by decide +kernel
theorem dX3_overAt_20 : decode cX3_overAt 20 = .ok (.iload_n 2, 1) := by decide +kernel
theorem dX3_overAt_21 : decode cX3_overAt 21 = .ok (.iconst 4, 1) := by decide +kernel
theorem dX3_overAt_22 : decode cX3_overAt 22 = .ok (.imul, 1) := by decide +kernel
theorem dX3_overAt_23 : decode cX3_overAt 23 = .ok (.istore 5, 2) := by decide +kernel
theorem dX3_overAt_25 : decode cX3_overAt 25 = .ok (.iload 5, 2) := by decide +kernel
theorem dX3_overAt_27 : decode cX3_overAt 27 = .ok (.iload_n 2, 1) := by decide +kernel
theorem dX3_overAt_28 : decode cX3_overAt 28 = .ok (.iconst 4, 1) := by decide +kernel
theorem dX3_overAt_29 : decode cX3_overAt 29 = .ok (.imul, 1) := by decide +kernel
theorem dX3_overAt_30 : decode cX3_overAt 30 = .ok (.aload_n 0, 1) := by decide +kernel
theorem dX3_overAt_31 : decode cX3_overAt 31 = .ok (.getfield 22, 3) := by decide +kernel
theorem dX3_overAt_34 : decode cX3_overAt 34 = .ok (.getfield 36, 3) := by decide +kernel
theorem dX3_overAt_37 : decode cX3_overAt 37 = .ok (.iload_n 2, 1) := by decide +kernel
theorem dX3_overAt_38 : decode cX3_overAt 38 = .ok (.iaload, 1) := by decide +kernel
theorem dX3_overAt_39 : decode cX3_overAt 39 = .ok (.iadd, 1) := by decide +kernel
theorem dX3_overAt_40 : decode cX3_overAt 40 = .ok (.if_icmp .ge 81, 3) := by decide +kernel
theorem dX3_overAt_43 : decode cX3_overAt 43 = .ok (.aload_n 0, 1) := by decide +kernel
theorem dX3_overAt_44 : decode cX3_overAt 44 = .ok (.getfield 22, 3) := by decide +kernel
theorem dX3_overAt_47 : decode cX3_overAt 47 = .ok (.getfield 39, 3) := by decide +kernel
theorem dX3_overAt_50 : decode cX3_overAt 50 = .ok (.iload 5, 2) := by decide +kernel
theorem dX3_overAt_52 : decode cX3_overAt 52 = .ok (.iaload, 1) := by decide +kernel
theorem dX3_overAt_53 : decode cX3_overAt 53 = .ok (.istore 6, 2) := by decide +kernel
theorem dX3_overAt_55 : decode cX3_overAt 55 = .ok (.aload_n 0, 1) := by decide +kernel
theorem dX3_overAt_56 : decode cX3_overAt 56 = .ok (.getfield 22, 3) := by decide +kernel
theorem dX3_overAt_59 : decode cX3_overAt 59 = .ok (.getfield 56, 3) := by decide +kernel
theorem dX3_overAt_62 : decode cX3_overAt 62 = .ok (.iload 6, 2) := by decide +kernel
theorem dX3_overAt_64 : decode cX3_overAt 64 = .ok (.iaload, 1) := by decide +kernel
theorem dX3_overAt_65 : decode cX3_overAt 65 = .ok (.iload 4, 2) := by decide +kernel
theorem dX3_overAt_67 : decode cX3_overAt 67 = .ok (.iconst (-1), 1) := by decide +kernel
theorem dX3_overAt_68 : decode cX3_overAt 68 = .ok (.ixor, 1) := by decide +kernel
theorem dX3_overAt_69 : decode cX3_overAt 69 = .ok (.iand, 1) := by decide +kernel
theorem dX3_overAt_70 : decode cX3_overAt 70 = .ok (.ifCond .ne 7, 3) := by decide +kernel
theorem dX3_overAt_73 : decode cX3_overAt 73 = .ok (.iconst 1, 1) := by decide +kernel
theorem dX3_overAt_74 : decode cX3_overAt 74 = .ok (.goto 4, 3) := by decide +kernel
theorem dX3_overAt_77 : decode cX3_overAt 77 = .ok (.iconst 0, 1) := by decide +kernel
theorem dX3_overAt_78 : decode cX3_overAt 78 = .ok (.istore 7, 2) := by decide +kernel
theorem dX3_overAt_80 : decode cX3_overAt 80 = .ok (.iload 7, 2) := by decide +kernel
theorem dX3_overAt_82 : decode cX3_overAt 82 = .ok (.ifCond .eq 33, 3) := by decide +kernel
theorem dX3_overAt_85 : decode cX3_overAt 85 = .ok (.aload_n 0, 1) := by decide +kernel
theorem dX3_overAt_86 : decode cX3_overAt 86 = .ok (.getfield 22, 3) := by decide +kernel
theorem dX3_overAt_89 : decode cX3_overAt 89 = .ok (.getfield 59, 3) := by decide +kernel
theorem dX3_overAt_92 : decode cX3_overAt 92 = .ok (.iload 6, 2) := by decide +kernel
theorem dX3_overAt_94 : decode cX3_overAt 94 = .ok (.baload, 1) := by decide +kernel
theorem dX3_overAt_95 : decode cX3_overAt 95 = .ok (.ifCond .ne 20, 3) := by decide +kernel
theorem dX3_overAt_98 : decode cX3_overAt 98 = .ok (.iload_n 3, 1) := by decide +kernel
theorem dX3_overAt_99 : decode cX3_overAt 99 = .ok (.ifCond .lt 13, 3) := by decide +kernel
theorem dX3_overAt_102 : decode cX3_overAt 102 = .ok (.aload_n 0, 1) := by decide +kernel
theorem dX3_overAt_103 : decode cX3_overAt 103 = .ok (.iload 6, 2) := by decide +kernel
theorem dX3_overAt_105 : decode cX3_overAt 105 = .ok (.iload_n 3, 1) := by decide +kernel
theorem dX3_overAt_106 : decode cX3_overAt 106 = .ok (.invokevirtual 62, 3) := by decide +kernel
theorem dX3_overAt_109 : decode cX3_overAt 109 = .ok (.ifCond .eq 6, 3) := by decide +kernel
theorem dX3_overAt_112 : decode cX3_overAt 112 = .ok (.iload 6, 2) := by decide +kernel
theorem dX3_overAt_114 : decode cX3_overAt 114 = .ok (.istore_n 3, 1) := by decide +kernel
theorem dX3_overAt_115 : decode cX3_overAt 115 = .ok (.iinc 5 1, 3) := by decide +kernel
theorem dX3_overAt_118 : decode cX3_overAt 118 = .ok (.goto (-93), 3) := by decide +kernel
theorem dX3_overAt_121 : decode cX3_overAt 121 = .ok (.iload_n 3, 1) := by decide +kernel
theorem dX3_overAt_122 : decode cX3_overAt 122 = .ok (.ireturn, 1) := by decide +kernel
theorem s27_0 : aW d 27 0 L S h Q = aW d 27 1 L (.int ((-1)) :: S) h Q := ax_iconst mt27 dX3_overAt_0 ic_m1
theorem s27_1 : aW d 27 1 [l0, l1, l2, l3, l4, l5, l6, l7] (.int a :: S) h Q = aW d 27 2 [l0, l1, l2, .int a, l4, l5, l6, l7] S h Q := ax_istore_n mt27 dX3_overAt_1 (Nat.le_of_ble_eq_true rfl) rfl
theorem s27_2 : aW d 27 2 [.ref o, l1, l2, l3, l4, l5, l6, l7] S h Q = aW d 27 3 [.ref o, l1, l2, l3, l4, l5, l6, l7] (.ref o :: S) h Q := ax_aload_n mt27 dX3_overAt_2 rfl
theorem s27_3 (hT : gT h o = some (5, 4)) : aW d 27 3 L (.ref o :: S) h Q = (isRf (gR h o 3) = true ∧ aW d 27 6 L (gR h o 3 :: S) h Q) := ax_geta mt27 dX3_overAt_3 (by decide) ft_12306 fk_12306 hT
theorem s27_6 : aW d 27 6 [l0, l1, .int a, l3, l4, l5, l6, l7] S h Q = aW d 27 7 [l0, l1, .int a, l3, l4, l5, l6, l7] (.int a :: S) h Q := ax_iload_n mt27 dX3_overAt_6 rfl
theorem s27_7 : aW d 27 7 L (.int a :: .ref o :: S) h Q = (inb a (aZ h o) ∧ aW d 27 8 L (.int (gI h o a.toNatClampNeg) :: S) h Q) := ax_zald mt27 dX3_overAt_7
theorem s27_8 : aW d 27 8 L (.int a :: S) h Q = (if a = 0 then aW d 27 11 L S h Q else aW d 27 13 L S h Q) := ax_if_ne mt27 dX3_overAt_8 (by decide)
theorem s27_11 : aW d 27 11 [l0, l1, l2, .int a, l4, l5, l6, l7] S h Q = aW d 27 12 [l0, l1, l2, .int a, l4, l5, l6, l7] (.int a :: S) h Q := ax_iload_n mt27 dX3_overAt_11 rfl
theorem s27_12 : aW d 27 12 L [.int a] h Q = Q (some (.int a)) h := ax_reti mt27 dX3_overAt_12 rfl
theorem s27_13 : aW d 27 13 [l0, .int a, l2, l3, l4, l5, l6, l7] S h Q = aW d 27 14 [l0, .int a, l2, l3, l4, l5, l6, l7] (.int a :: S) h Q := ax_iload_n mt27 dX3_overAt_13 rfl
theorem s27_14 : aW d 27 14 L S h Q = aW d 27 15 L (.int (nI 1) :: S) h Q := ax_iconst mt27 dX3_overAt_14 ic_1
theorem s27_15 : aW d 27 15 [l0, l1, .int a, l3, l4, l5, l6, l7] S h Q = aW d 27 16 [l0, l1, .int a, l3, l4, l5, l6, l7] (.int a :: S) h Q := ax_iload_n mt27 dX3_overAt_15 rfl
theorem s27_16 : aW d 27 16 L (.int b :: .int a :: S) h Q = aW d 27 17 L (.int (a <<< (b &&& 31)) :: S) h Q := ax_ishl mt27 dX3_overAt_16
theorem s27_17 : aW d 27 17 L (.int b :: .int a :: S) h Q = aW d 27 18 L (.int (a ||| b) :: S) h Q := ax_ior mt27 dX3_overAt_17
theorem s27_18 : aW d 27 18 [l0, l1, l2, l3, l4, l5, l6, l7] (.int a :: S) h Q = aW d 27 20 [l0, l1, l2, l3, .int a, l5, l6, l7] S h Q := ax_istore mt27 dX3_overAt_18 (Nat.le_of_ble_eq_true rfl) rfl
theorem s27_20 : aW d 27 20 [l0, l1, .int a, l3, l4, l5, l6, l7] S h Q = aW d 27 21 [l0, l1, .int a, l3, l4, l5, l6, l7] (.int a :: S) h Q := ax_iload_n mt27 dX3_overAt_20 rfl
theorem s27_21 : aW d 27 21 L S h Q = aW d 27 22 L (.int (nI 4) :: S) h Q := ax_iconst mt27 dX3_overAt_21 ic_4
theorem s27_22 : aW d 27 22 L (.int b :: .int a :: S) h Q = aW d 27 23 L (.int (a * b) :: S) h Q := ax_imul mt27 dX3_overAt_22
theorem s27_23 : aW d 27 23 [l0, l1, l2, l3, l4, l5, l6, l7] (.int a :: S) h Q = aW d 27 25 [l0, l1, l2, l3, l4, .int a, l6, l7] S h Q := ax_istore mt27 dX3_overAt_23 (Nat.le_of_ble_eq_true rfl) rfl
theorem s27_25 : aW d 27 25 [l0, l1, l2, l3, l4, .int a, l6, l7] S h Q = aW d 27 27 [l0, l1, l2, l3, l4, .int a, l6, l7] (.int a :: S) h Q := ax_iload mt27 dX3_overAt_25 rfl
theorem s27_27 : aW d 27 27 [l0, l1, .int a, l3, l4, l5, l6, l7] S h Q = aW d 27 28 [l0, l1, .int a, l3, l4, l5, l6, l7] (.int a :: S) h Q := ax_iload_n mt27 dX3_overAt_27 rfl
theorem s27_28 : aW d 27 28 L S h Q = aW d 27 29 L (.int (nI 4) :: S) h Q := ax_iconst mt27 dX3_overAt_28 ic_4
theorem s27_29 : aW d 27 29 L (.int b :: .int a :: S) h Q = aW d 27 30 L (.int (a * b) :: S) h Q := ax_imul mt27 dX3_overAt_29
theorem s27_30 : aW d 27 30 [.ref o, l1, l2, l3, l4, l5, l6, l7] S h Q = aW d 27 31 [.ref o, l1, l2, l3, l4, l5, l6, l7] (.ref o :: S) h Q := ax_aload_n mt27 dX3_overAt_30 rfl
theorem s27_31 (hT : gT h o = some (5, 4)) : aW d 27 31 L (.ref o :: S) h Q = (isRf (gR h o 0) = true ∧ aW d 27 34 L (gR h o 0 :: S) h Q) := ax_geta mt27 dX3_overAt_31 (by decide) ft_12310 fk_12310 hT
theorem s27_34 (hT : gT h o = some (8, 12)) : aW d 27 34 L (.ref o :: S) h Q = (isRf (gR h o 10) = true ∧ aW d 27 37 L (gR h o 10 :: S) h Q) := ax_geta mt27 dX3_overAt_34 (by decide) ft_12324 fk_12324 hT
theorem s27_37 : aW d 27 37 [l0, l1, .int a, l3, l4, l5, l6, l7] S h Q = aW d 27 38 [l0, l1, .int a, l3, l4, l5, l6, l7] (.int a :: S) h Q := ax_iload_n mt27 dX3_overAt_37 rfl
theorem s27_38 : aW d 27 38 L (.int a :: .ref o :: S) h Q = (inb a (aI h o) ∧ aW d 27 39 L (.int (gI h o a.toNatClampNeg) :: S) h Q) := ax_iald mt27 dX3_overAt_38
theorem s27_39 : aW d 27 39 L (.int b :: .int a :: S) h Q = aW d 27 40 L (.int (a + b) :: S) h Q := ax_iadd mt27 dX3_overAt_39
theorem s27_40 : aW d 27 40 L (.int b :: .int a :: S) h Q = (if a < b then aW d 27 43 L S h Q else aW d 27 121 L S h Q) := ax_icmp_ge mt27 dX3_overAt_40 (by decide)
theorem s27_43 : aW d 27 43 [.ref o, l1, l2, l3, l4, l5, l6, l7] S h Q = aW d 27 44 [.ref o, l1, l2, l3, l4, l5, l6, l7] (.ref o :: S) h Q := ax_aload_n mt27 dX3_overAt_43 rfl
theorem s27_44 (hT : gT h o = some (5, 4)) : aW d 27 44 L (.ref o :: S) h Q = (isRf (gR h o 0) = true ∧ aW d 27 47 L (gR h o 0 :: S) h Q) := ax_geta mt27 dX3_overAt_44 (by decide) ft_12310 fk_12310 hT
theorem s27_47 (hT : gT h o = some (8, 12)) : aW d 27 47 L (.ref o :: S) h Q = (isRf (gR h o 11) = true ∧ aW d 27 50 L (gR h o 11 :: S) h Q) := ax_geta mt27 dX3_overAt_47 (by decide) ft_12327 fk_12327 hT
theorem s27_50 : aW d 27 50 [l0, l1, l2, l3, l4, .int a, l6, l7] S h Q = aW d 27 52 [l0, l1, l2, l3, l4, .int a, l6, l7] (.int a :: S) h Q := ax_iload mt27 dX3_overAt_50 rfl
theorem s27_52 : aW d 27 52 L (.int a :: .ref o :: S) h Q = (inb a (aI h o) ∧ aW d 27 53 L (.int (gI h o a.toNatClampNeg) :: S) h Q) := ax_iald mt27 dX3_overAt_52
theorem s27_53 : aW d 27 53 [l0, l1, l2, l3, l4, l5, l6, l7] (.int a :: S) h Q = aW d 27 55 [l0, l1, l2, l3, l4, l5, .int a, l7] S h Q := ax_istore mt27 dX3_overAt_53 (Nat.le_of_ble_eq_true rfl) rfl
theorem s27_55 : aW d 27 55 [.ref o, l1, l2, l3, l4, l5, l6, l7] S h Q = aW d 27 56 [.ref o, l1, l2, l3, l4, l5, l6, l7] (.ref o :: S) h Q := ax_aload_n mt27 dX3_overAt_55 rfl
theorem s27_56 (hT : gT h o = some (5, 4)) : aW d 27 56 L (.ref o :: S) h Q = (isRf (gR h o 0) = true ∧ aW d 27 59 L (gR h o 0 :: S) h Q) := ax_geta mt27 dX3_overAt_56 (by decide) ft_12310 fk_12310 hT
theorem s27_59 (hT : gT h o = some (8, 12)) : aW d 27 59 L (.ref o :: S) h Q = (isRf (gR h o 5) = true ∧ aW d 27 62 L (gR h o 5 :: S) h Q) := ax_geta mt27 dX3_overAt_59 (by decide) ft_12344 fk_12344 hT
theorem s27_62 : aW d 27 62 [l0, l1, l2, l3, l4, l5, .int a, l7] S h Q = aW d 27 64 [l0, l1, l2, l3, l4, l5, .int a, l7] (.int a :: S) h Q := ax_iload mt27 dX3_overAt_62 rfl
theorem s27_64 : aW d 27 64 L (.int a :: .ref o :: S) h Q = (inb a (aI h o) ∧ aW d 27 65 L (.int (gI h o a.toNatClampNeg) :: S) h Q) := ax_iald mt27 dX3_overAt_64
theorem s27_65 : aW d 27 65 [l0, l1, l2, l3, .int a, l5, l6, l7] S h Q = aW d 27 67 [l0, l1, l2, l3, .int a, l5, l6, l7] (.int a :: S) h Q := ax_iload mt27 dX3_overAt_65 rfl
theorem s27_67 : aW d 27 67 L S h Q = aW d 27 68 L (.int ((-1)) :: S) h Q := ax_iconst mt27 dX3_overAt_67 ic_m1
theorem s27_68 : aW d 27 68 L (.int b :: .int a :: S) h Q = aW d 27 69 L (.int (a ^^^ b) :: S) h Q := ax_ixor mt27 dX3_overAt_68
theorem s27_69 : aW d 27 69 L (.int b :: .int a :: S) h Q = aW d 27 70 L (.int (a &&& b) :: S) h Q := ax_iand mt27 dX3_overAt_69
theorem s27_70 : aW d 27 70 L (.int a :: S) h Q = (if a = 0 then aW d 27 73 L S h Q else aW d 27 77 L S h Q) := ax_if_ne mt27 dX3_overAt_70 (by decide)
theorem s27_73 : aW d 27 73 L S h Q = aW d 27 74 L (.int (nI 1) :: S) h Q := ax_iconst mt27 dX3_overAt_73 ic_1
theorem s27_74 : aW d 27 74 L S h Q = aW d 27 78 L S h Q := ax_goto mt27 dX3_overAt_74 (by decide)
theorem s27_78 : aW d 27 78 [l0, l1, l2, l3, l4, l5, l6, l7] (.int a :: S) h Q = aW d 27 80 [l0, l1, l2, l3, l4, l5, l6, .int a] S h Q := ax_istore mt27 dX3_overAt_78 (Nat.le_of_ble_eq_true rfl) rfl
theorem s27_80 : aW d 27 80 [l0, l1, l2, l3, l4, l5, l6, .int a] S h Q = aW d 27 82 [l0, l1, l2, l3, l4, l5, l6, .int a] (.int a :: S) h Q := ax_iload mt27 dX3_overAt_80 rfl
theorem s27_82 : aW d 27 82 L (.int a :: S) h Q = (if a = 0 then aW d 27 115 L S h Q else aW d 27 85 L S h Q) := ax_if_eq mt27 dX3_overAt_82 (by decide)
theorem s27_85 : aW d 27 85 [.ref o, l1, l2, l3, l4, l5, l6, l7] S h Q = aW d 27 86 [.ref o, l1, l2, l3, l4, l5, l6, l7] (.ref o :: S) h Q := ax_aload_n mt27 dX3_overAt_85 rfl
theorem s27_86 (hT : gT h o = some (5, 4)) : aW d 27 86 L (.ref o :: S) h Q = (isRf (gR h o 0) = true ∧ aW d 27 89 L (gR h o 0 :: S) h Q) := ax_geta mt27 dX3_overAt_86 (by decide) ft_12310 fk_12310 hT
theorem s27_89 (hT : gT h o = some (8, 12)) : aW d 27 89 L (.ref o :: S) h Q = (isRf (gR h o 3) = true ∧ aW d 27 92 L (gR h o 3 :: S) h Q) := ax_geta mt27 dX3_overAt_89 (by decide) ft_12347 fk_12347 hT
theorem s27_92 : aW d 27 92 [l0, l1, l2, l3, l4, l5, .int a, l7] S h Q = aW d 27 94 [l0, l1, l2, l3, l4, l5, .int a, l7] (.int a :: S) h Q := ax_iload mt27 dX3_overAt_92 rfl
theorem s27_94 : aW d 27 94 L (.int a :: .ref o :: S) h Q = (inb a (aZ h o) ∧ aW d 27 95 L (.int (gI h o a.toNatClampNeg) :: S) h Q) := ax_zald mt27 dX3_overAt_94
theorem s27_95 : aW d 27 95 L (.int a :: S) h Q = (if a = 0 then aW d 27 98 L S h Q else aW d 27 115 L S h Q) := ax_if_ne mt27 dX3_overAt_95 (by decide)
theorem s27_98 : aW d 27 98 [l0, l1, l2, .int a, l4, l5, l6, l7] S h Q = aW d 27 99 [l0, l1, l2, .int a, l4, l5, l6, l7] (.int a :: S) h Q := ax_iload_n mt27 dX3_overAt_98 rfl
theorem s27_99 : aW d 27 99 L (.int a :: S) h Q = (if a < 0 then aW d 27 112 L S h Q else aW d 27 102 L S h Q) := ax_if_lt mt27 dX3_overAt_99 (by decide)
theorem s27_102 : aW d 27 102 [.ref o, l1, l2, l3, l4, l5, l6, l7] S h Q = aW d 27 103 [.ref o, l1, l2, l3, l4, l5, l6, l7] (.ref o :: S) h Q := ax_aload_n mt27 dX3_overAt_102 rfl
theorem s27_103 : aW d 27 103 [l0, l1, l2, l3, l4, l5, .int a, l7] S h Q = aW d 27 105 [l0, l1, l2, l3, l4, l5, .int a, l7] (.int a :: S) h Q := ax_iload mt27 dX3_overAt_103 rfl
theorem s27_105 : aW d 27 105 [l0, l1, l2, .int a, l4, l5, l6, l7] S h Q = aW d 27 106 [l0, l1, l2, .int a, l4, l5, l6, l7] (.int a :: S) h Q := ax_iload_n mt27 dX3_overAt_105 rfl
theorem s27_106 (hT : gT h o = some (5, 4)) : aW (d + 1) 27 106 L (.int x1 :: .int x0 :: .ref o :: []) h Q = aM d 28 (.ref o :: [.int x0, .int x1]) h (fun v h1 => aW (d + 1) 27 109 L (ab_ps v []) h1 Q) := ax_invv mt27 dX3_overAt_106 (by decide) ct_12350 (.inl rfl) mt28 ⟨⟨Nat.le_of_ble_eq_true rfl, Nat.le_of_ble_eq_true rfl, Nat.le_of_ble_eq_true rfl⟩, rfl, rfl, rfl⟩ hT
theorem s27_109 : aW d 27 109 L (.int a :: S) h Q = (if a = 0 then aW d 27 115 L S h Q else aW d 27 112 L S h Q) := ax_if_eq mt27 dX3_overAt_109 (by decide)
theorem s27_112 : aW d 27 112 [l0, l1, l2, l3, l4, l5, .int a, l7] S h Q = aW d 27 114 [l0, l1, l2, l3, l4, l5, .int a, l7] (.int a :: S) h Q := ax_iload mt27 dX3_overAt_112 rfl
theorem s27_114 : aW d 27 114 [l0, l1, l2, l3, l4, l5, l6, l7] (.int a :: S) h Q = aW d 27 115 [l0, l1, l2, .int a, l4, l5, l6, l7] S h Q := ax_istore_n mt27 dX3_overAt_114 (Nat.le_of_ble_eq_true rfl) rfl
theorem s27_115 : aW d 27 115 [l0, l1, l2, l3, l4, .int a, l6, l7] S h Q = aW d 27 118 [l0, l1, l2, l3, l4, .int (a + nI 1), l6, l7] S h Q := ax_iinc mt27 dX3_overAt_115 rfl ic_1 rfl
theorem s27_118 : aW d 27 118 L S h Q = aW d 27 25 L S h Q := ax_goto mt27 dX3_overAt_118 (by decide)
theorem s27_77 : aW d 27 77 L S h Q = aW d 27 78 L (.int (nI 0) :: S) h Q := ax_iconst mt27 dX3_overAt_77 ic_0
theorem s27_121 : aW d 27 121 [l0, l1, l2, .int a, l4, l5, l6, l7] S h Q = aW d 27 122 [l0, l1, l2, .int a, l4, l5, l6, l7] (.int a :: S) h Q := ax_iload_n mt27 dX3_overAt_121 rfl
theorem s27_122 : aW d 27 122 L [.int a] h Q = Q (some (.int a)) h := ax_reti mt27 dX3_overAt_122 rfl
-- method 28: BufferRoom$Loads.isFirst(II)Z
theorem dX3_isFirst_0 : decode cX3_isFirst 0 = .ok (.aload_n 0, 1) := by decide +kernel
theorem dX3_isFirst_1 : decode cX3_isFirst 1 = .ok (.getfield 9, 3) := by decide +kernel
theorem dX3_isFirst_4 : decode cX3_isFirst 4 = .ok (.iload_n 1, 1) := by decide +kernel
theorem dX3_isFirst_5 : decode cX3_isFirst 5 = .ok (.iaload, 1) := by decide +kernel
theorem dX3_isFirst_6 : decode cX3_isFirst 6 = .ok (.aload_n 0, 1) := by decide +kernel
theorem dX3_isFirst_7 : decode cX3_isFirst 7 = .ok (.getfield 9, 3) := by decide +kernel
theorem dX3_isFirst_10 : decode cX3_isFirst 10 = .ok (.iload_n 2, 1) := by decide +kernel
theorem dX3_isFirst_11 : decode cX3_isFirst 11 = .ok (.iaload, 1) := by decide +kernel
theorem dX3_isFirst_12 : decode cX3_isFirst 12 = .ok (.if_icmp .gt 23, 3) := by decide +kernel
theorem dX3_isFirst_15 : decode cX3_isFirst 15 = .ok (.aload_n 0, 1) := by decide +kernel
theorem dX3_isFirst_16 : decode cX3_isFirst 16 = .ok (.getfield 9, 3) := by decide +kernel
theorem dX3_isFirst_19 : decode cX3_isFirst 19 = .ok (.iload_n 1, 1) := by decide +kernel
theorem dX3_isFirst_20 : decode cX3_isFirst 20 = .ok (.iaload, 1) := by decide +kernel
theorem dX3_isFirst_21 : decode cX3_isFirst 21 = .ok (.aload_n 0, 1) := by decide +kernel
theorem dX3_isFirst_22 : decode cX3_isFirst 22 = .ok (.getfield 9, 3) := by decide +kernel
theorem dX3_isFirst_25 : decode cX3_isFirst 25 = .ok (.iload_n 2, 1) := by decide +kernel
theorem dX3_isFirst_26 : decode cX3_isFirst 26 = .ok (.iaload, 1) := by decide +kernel
theorem dX3_isFirst_27 : decode cX3_isFirst 27 = .ok (.if_icmp .ne 12, 3) := by decide +kernel
theorem dX3_isFirst_30 : decode cX3_isFirst 30 = .ok (.iload_n 1, 1) := by decide +kernel
theorem dX3_isFirst_31 : decode cX3_isFirst 31 = .ok (.iload_n 2, 1) := by decide +kernel
theorem dX3_isFirst_32 : decode cX3_isFirst 32 = .ok (.if_icmp .ge 7, 3) := by decide +kernel
theorem dX3_isFirst_35 : decode cX3_isFirst 35 = .ok (.iconst 1, 1) := by decide +kernel
theorem dX3_isFirst_36 : decode cX3_isFirst 36 = .ok (.goto 4, 3) := by decide +kernel
theorem dX3_isFirst_39 : decode cX3_isFirst 39 = .ok (.iconst 0, 1) := by decide +kernel
theorem dX3_isFirst_40 : decode cX3_isFirst 40 = .ok (.ireturn, 1) := by decide +kernel
theorem s28_0 : aW d 28 0 [.ref o, l1, l2] S h Q = aW d 28 1 [.ref o, l1, l2] (.ref o :: S) h Q := ax_aload_n mt28 dX3_isFirst_0 rfl
theorem s28_1 (hT : gT h o = some (5, 4)) : aW d 28 1 L (.ref o :: S) h Q = (isRf (gR h o 1) = true ∧ aW d 28 4 L (gR h o 1 :: S) h Q) := ax_geta mt28 dX3_isFirst_1 (by decide) ft_12297 fk_12297 hT
theorem s28_4 : aW d 28 4 [l0, .int a, l2] S h Q = aW d 28 5 [l0, .int a, l2] (.int a :: S) h Q := ax_iload_n mt28 dX3_isFirst_4 rfl
theorem s28_5 : aW d 28 5 L (.int a :: .ref o :: S) h Q = (inb a (aI h o) ∧ aW d 28 6 L (.int (gI h o a.toNatClampNeg) :: S) h Q) := ax_iald mt28 dX3_isFirst_5
theorem s28_6 : aW d 28 6 [.ref o, l1, l2] S h Q = aW d 28 7 [.ref o, l1, l2] (.ref o :: S) h Q := ax_aload_n mt28 dX3_isFirst_6 rfl
theorem s28_7 (hT : gT h o = some (5, 4)) : aW d 28 7 L (.ref o :: S) h Q = (isRf (gR h o 1) = true ∧ aW d 28 10 L (gR h o 1 :: S) h Q) := ax_geta mt28 dX3_isFirst_7 (by decide) ft_12297 fk_12297 hT
theorem s28_10 : aW d 28 10 [l0, l1, .int a] S h Q = aW d 28 11 [l0, l1, .int a] (.int a :: S) h Q := ax_iload_n mt28 dX3_isFirst_10 rfl
theorem s28_11 : aW d 28 11 L (.int a :: .ref o :: S) h Q = (inb a (aI h o) ∧ aW d 28 12 L (.int (gI h o a.toNatClampNeg) :: S) h Q) := ax_iald mt28 dX3_isFirst_11
theorem s28_12 : aW d 28 12 L (.int b :: .int a :: S) h Q = (if b < a then aW d 28 35 L S h Q else aW d 28 15 L S h Q) := ax_icmp_gt mt28 dX3_isFirst_12 (by decide)
theorem s28_15 : aW d 28 15 [.ref o, l1, l2] S h Q = aW d 28 16 [.ref o, l1, l2] (.ref o :: S) h Q := ax_aload_n mt28 dX3_isFirst_15 rfl
theorem s28_16 (hT : gT h o = some (5, 4)) : aW d 28 16 L (.ref o :: S) h Q = (isRf (gR h o 1) = true ∧ aW d 28 19 L (gR h o 1 :: S) h Q) := ax_geta mt28 dX3_isFirst_16 (by decide) ft_12297 fk_12297 hT
theorem s28_19 : aW d 28 19 [l0, .int a, l2] S h Q = aW d 28 20 [l0, .int a, l2] (.int a :: S) h Q := ax_iload_n mt28 dX3_isFirst_19 rfl
theorem s28_20 : aW d 28 20 L (.int a :: .ref o :: S) h Q = (inb a (aI h o) ∧ aW d 28 21 L (.int (gI h o a.toNatClampNeg) :: S) h Q) := ax_iald mt28 dX3_isFirst_20
theorem s28_21 : aW d 28 21 [.ref o, l1, l2] S h Q = aW d 28 22 [.ref o, l1, l2] (.ref o :: S) h Q := ax_aload_n mt28 dX3_isFirst_21 rfl
theorem s28_22 (hT : gT h o = some (5, 4)) : aW d 28 22 L (.ref o :: S) h Q = (isRf (gR h o 1) = true ∧ aW d 28 25 L (gR h o 1 :: S) h Q) := ax_geta mt28 dX3_isFirst_22 (by decide) ft_12297 fk_12297 hT
theorem s28_25 : aW d 28 25 [l0, l1, .int a] S h Q = aW d 28 26 [l0, l1, .int a] (.int a :: S) h Q := ax_iload_n mt28 dX3_isFirst_25 rfl
theorem s28_26 : aW d 28 26 L (.int a :: .ref o :: S) h Q = (inb a (aI h o) ∧ aW d 28 27 L (.int (gI h o a.toNatClampNeg) :: S) h Q) := ax_iald mt28 dX3_isFirst_26
theorem s28_27 : aW d 28 27 L (.int b :: .int a :: S) h Q = (if a = b then aW d 28 30 L S h Q else aW d 28 39 L S h Q) := ax_icmp_ne mt28 dX3_isFirst_27 (by decide)
theorem s28_30 : aW d 28 30 [l0, .int a, l2] S h Q = aW d 28 31 [l0, .int a, l2] (.int a :: S) h Q := ax_iload_n mt28 dX3_isFirst_30 rfl
theorem s28_31 : aW d 28 31 [l0, l1, .int a] S h Q = aW d 28 32 [l0, l1, .int a] (.int a :: S) h Q := ax_iload_n mt28 dX3_isFirst_31 rfl
theorem s28_32 : aW d 28 32 L (.int b :: .int a :: S) h Q = (if a < b then aW d 28 35 L S h Q else aW d 28 39 L S h Q) := ax_icmp_ge mt28 dX3_isFirst_32 (by decide)
theorem s28_39 : aW d 28 39 L S h Q = aW d 28 40 L (.int (nI 0) :: S) h Q := ax_iconst mt28 dX3_isFirst_39 ic_0
theorem s28_40 : aW d 28 40 L [.int a] h Q = (b01 a ∧ Q (some (.int a)) h) := ax_retz mt28 dX3_isFirst_40 rfl
theorem s28_35 : aW d 28 35 L S h Q = aW d 28 36 L (.int (nI 1) :: S) h Q := ax_iconst mt28 dX3_isFirst_35 ic_1
theorem s28_36 : aW d 28 36 L S h Q = aW d 28 40 L S h Q := ax_goto mt28 dX3_isFirst_36 (by decide)
-- method 29: BufferRoom$Loads.heldAfter(I)I
theorem dX3_heldAfter_0 : decode cX3_heldAfter 0 = .ok (.iconst 0, 1) := by decide +kernel
theorem dX3_heldAfter_1 : decode cX3_heldAfter 1 = .ok (.istore_n 2, 1) := by decide +kernel
theorem dX3_heldAfter_2 : decode cX3_heldAfter 2 = .ok (.iconst 0, 1) := by decide +kernel
theorem dX3_heldAfter_3 : decode cX3_heldAfter 3 = .ok (.istore_n 3, 1) := by decide +kernel
theorem dX3_heldAfter_4 : decode cX3_heldAfter 4 = .ok (.iload_n 3, 1) := by decide +kernel
theorem dX3_heldAfter_5 : decode cX3_heldAfter 5 = .ok (.bipush 12, 2) := by decide +kernel
theorem dX3_heldAfter_7 : decode cX3_heldAfter 7 = .ok (.if_icmp .ge 83, 3) := by decide +kernel
theorem dX3_heldAfter_10 : decode cX3_heldAfter 10 = .ok (.aload_n 0, 1) := by decide +kernel
theorem dX3_heldAfter_11 : decode cX3_heldAfter 11 = .ok (.getfield 22, 3) := by decide +kernel
theorem dX3_heldAfter_14 : decode cX3_heldAfter 14 = .ok (.getfield 66, 3) := by decide +kernel
theorem dX3_heldAfter_17 : decode cX3_heldAfter 17 = .ok (.iload_n 3, 1) := by decide +kernel
theorem dX3_heldAfter_18 : decode cX3_heldAfter 18 = .ok (.iaload, 1) := by decide +kernel
theorem dX3_heldAfter_19 : decode cX3_heldAfter 19 = .ok (.istore 4, 2) := by decide +kernel
theorem dX3_heldAfter_21 : decode cX3_heldAfter 21 = .ok (.iload 4, 2) := by decide +kernel
theorem dX3_heldAfter_23 : decode cX3_heldAfter 23 = .ok (.ifCond .lt 12, 3) := by decide +kernel
theorem dX3_heldAfter_26 : decode cX3_heldAfter 26 = .ok (.iload_n 1, 1) := by decide +kernel
theorem dX3_heldAfter_27 : decode cX3_heldAfter 27 = .ok (.iload 4, 2) := by decide +kernel
theorem dX3_heldAfter_29 : decode cX3_heldAfter 29 = .ok (.ishr, 1) := by decide +kernel
theorem dX3_heldAfter_30 : decode cX3_heldAfter 30 = .ok (.iconst 1, 1) := by decide +kernel
theorem dX3_heldAfter_31 : decode cX3_heldAfter 31 = .ok (.iand, 1) := by decide +kernel
theorem dX3_heldAfter_32 : decode cX3_heldAfter 32 = .ok (.ifCond .eq 7, 3) := by decide +kernel
theorem dX3_heldAfter_35 : decode cX3_heldAfter 35 = .ok (.iconst 1, 1) := by decide +kernel
theorem dX3_heldAfter_36 : decode cX3_heldAfter 36 = .ok (.goto 4, 3) := by decide +kernel
theorem dX3_heldAfter_39 : decode cX3_heldAfter 39 = .ok (.iconst 0, 1) := by decide +kernel
theorem dX3_heldAfter_40 : decode cX3_heldAfter 40 = .ok (.istore 5, 2) := by decide +kernel
theorem dX3_heldAfter_42 : decode cX3_heldAfter 42 = .ok (.iload 5, 2) := by decide +kernel
theorem dX3_heldAfter_44 : decode cX3_heldAfter 44 = .ok (.ifCond .eq 40, 3) := by decide +kernel
theorem dX3_heldAfter_47 : decode cX3_heldAfter 47 = .ok (.aload_n 0, 1) := by decide +kernel
theorem dX3_heldAfter_48 : decode cX3_heldAfter 48 = .ok (.getfield 22, 3) := by decide +kernel
theorem dX3_heldAfter_51 : decode cX3_heldAfter 51 = .ok (.getfield 59, 3) := by decide +kernel
theorem dX3_heldAfter_54 : decode cX3_heldAfter 54 = .ok (.iload_n 3, 1) := by decide +kernel
theorem dX3_heldAfter_55 : decode cX3_heldAfter 55 = .ok (.baload, 1) := by decide +kernel
theorem dX3_heldAfter_56 : decode cX3_heldAfter 56 = .ok (.ifCond .ne 19, 3) := by decide +kernel
theorem dX3_heldAfter_59 : decode cX3_heldAfter 59 = .ok (.aload_n 0, 1) := by decide +kernel
theorem dX3_heldAfter_60 : decode cX3_heldAfter 60 = .ok (.getfield 22, 3) := by decide +kernel
theorem dX3_heldAfter_63 : decode cX3_heldAfter 63 = .ok (.getfield 56, 3) := by decide +kernel
theorem dX3_heldAfter_66 : decode cX3_heldAfter 66 = .ok (.iload_n 3, 1) := by decide +kernel
theorem dX3_heldAfter_67 : decode cX3_heldAfter 67 = .ok (.iaload, 1) := by decide +kernel
theorem dX3_heldAfter_68 : decode cX3_heldAfter 68 = .ok (.iload_n 1, 1) := by decide +kernel
theorem dX3_heldAfter_69 : decode cX3_heldAfter 69 = .ok (.iconst (-1), 1) := by decide +kernel
theorem dX3_heldAfter_70 : decode cX3_heldAfter 70 = .ok (.ixor, 1) := by decide +kernel
theorem dX3_heldAfter_71 : decode cX3_heldAfter 71 = .ok (.iand, 1) := by decide +kernel
theorem dX3_heldAfter_72 : decode cX3_heldAfter 72 = .ok (.ifCond .eq 12, 3) := by decide +kernel
theorem dX3_heldAfter_75 : decode cX3_heldAfter 75 = .ok (.iload_n 2, 1) := by decide +kernel
theorem dX3_heldAfter_76 : decode cX3_heldAfter 76 = .ok (.aload_n 0, 1) := by decide +kernel
theorem dX3_heldAfter_77 : decode cX3_heldAfter 77 = .ok (.getfield 9, 3) := by decide +kernel
theorem dX3_heldAfter_80 : decode cX3_heldAfter 80 = .ok (.iload_n 3, 1) := by decide +kernel
theorem dX3_heldAfter_81 : decode cX3_heldAfter 81 = .ok (.iaload, 1) := by decide +kernel
theorem dX3_heldAfter_82 : decode cX3_heldAfter 82 = .ok (.iadd, 1) := by decide +kernel
theorem dX3_heldAfter_83 : decode cX3_heldAfter 83 = .ok (.istore_n 2, 1) := by decide +kernel
theorem dX3_heldAfter_84 : decode cX3_heldAfter 84 = .ok (.iinc 3 1, 3) := by decide +kernel
theorem dX3_heldAfter_87 : decode cX3_heldAfter 87 = .ok (.goto (-83), 3) := by decide +kernel
theorem dX3_heldAfter_90 : decode cX3_heldAfter 90 = .ok (.iload_n 2, 1) := by decide +kernel
theorem dX3_heldAfter_91 : decode cX3_heldAfter 91 = .ok (.ireturn, 1) := by decide +kernel
theorem s29_0 : aW d 29 0 L S h Q = aW d 29 1 L (.int (nI 0) :: S) h Q := ax_iconst mt29 dX3_heldAfter_0 ic_0
theorem s29_1 : aW d 29 1 [l0, l1, l2, l3, l4, l5] (.int a :: S) h Q = aW d 29 2 [l0, l1, .int a, l3, l4, l5] S h Q := ax_istore_n mt29 dX3_heldAfter_1 (Nat.le_of_ble_eq_true rfl) rfl
theorem s29_2 : aW d 29 2 L S h Q = aW d 29 3 L (.int (nI 0) :: S) h Q := ax_iconst mt29 dX3_heldAfter_2 ic_0
theorem s29_3 : aW d 29 3 [l0, l1, l2, l3, l4, l5] (.int a :: S) h Q = aW d 29 4 [l0, l1, l2, .int a, l4, l5] S h Q := ax_istore_n mt29 dX3_heldAfter_3 (Nat.le_of_ble_eq_true rfl) rfl
theorem s29_4 : aW d 29 4 [l0, l1, l2, .int a, l4, l5] S h Q = aW d 29 5 [l0, l1, l2, .int a, l4, l5] (.int a :: S) h Q := ax_iload_n mt29 dX3_heldAfter_4 rfl
theorem s29_5 : aW d 29 5 L S h Q = aW d 29 7 L (.int (nI 12) :: S) h Q := ax_bipush mt29 dX3_heldAfter_5 bp_12
theorem s29_7 : aW d 29 7 L (.int b :: .int a :: S) h Q = (if a < b then aW d 29 10 L S h Q else aW d 29 90 L S h Q) := ax_icmp_ge mt29 dX3_heldAfter_7 (by decide)
theorem s29_10 : aW d 29 10 [.ref o, l1, l2, l3, l4, l5] S h Q = aW d 29 11 [.ref o, l1, l2, l3, l4, l5] (.ref o :: S) h Q := ax_aload_n mt29 dX3_heldAfter_10 rfl
theorem s29_11 (hT : gT h o = some (5, 4)) : aW d 29 11 L (.ref o :: S) h Q = (isRf (gR h o 0) = true ∧ aW d 29 14 L (gR h o 0 :: S) h Q) := ax_geta mt29 dX3_heldAfter_11 (by decide) ft_12310 fk_12310 hT
theorem s29_14 (hT : gT h o = some (8, 12)) : aW d 29 14 L (.ref o :: S) h Q = (isRf (gR h o 4) = true ∧ aW d 29 17 L (gR h o 4 :: S) h Q) := ax_geta mt29 dX3_heldAfter_14 (by decide) ft_12354 fk_12354 hT
theorem s29_17 : aW d 29 17 [l0, l1, l2, .int a, l4, l5] S h Q = aW d 29 18 [l0, l1, l2, .int a, l4, l5] (.int a :: S) h Q := ax_iload_n mt29 dX3_heldAfter_17 rfl
theorem s29_18 : aW d 29 18 L (.int a :: .ref o :: S) h Q = (inb a (aI h o) ∧ aW d 29 19 L (.int (gI h o a.toNatClampNeg) :: S) h Q) := ax_iald mt29 dX3_heldAfter_18
theorem s29_19 : aW d 29 19 [l0, l1, l2, l3, l4, l5] (.int a :: S) h Q = aW d 29 21 [l0, l1, l2, l3, .int a, l5] S h Q := ax_istore mt29 dX3_heldAfter_19 (Nat.le_of_ble_eq_true rfl) rfl
theorem s29_21 : aW d 29 21 [l0, l1, l2, l3, .int a, l5] S h Q = aW d 29 23 [l0, l1, l2, l3, .int a, l5] (.int a :: S) h Q := ax_iload mt29 dX3_heldAfter_21 rfl
theorem s29_23 : aW d 29 23 L (.int a :: S) h Q = (if a < 0 then aW d 29 35 L S h Q else aW d 29 26 L S h Q) := ax_if_lt mt29 dX3_heldAfter_23 (by decide)
theorem s29_26 : aW d 29 26 [l0, .int a, l2, l3, l4, l5] S h Q = aW d 29 27 [l0, .int a, l2, l3, l4, l5] (.int a :: S) h Q := ax_iload_n mt29 dX3_heldAfter_26 rfl
theorem s29_27 : aW d 29 27 [l0, l1, l2, l3, .int a, l5] S h Q = aW d 29 29 [l0, l1, l2, l3, .int a, l5] (.int a :: S) h Q := ax_iload mt29 dX3_heldAfter_27 rfl
theorem s29_29 : aW d 29 29 L (.int b :: .int a :: S) h Q = aW d 29 30 L (.int (a >>> (b &&& 31)) :: S) h Q := ax_ishr mt29 dX3_heldAfter_29
theorem s29_30 : aW d 29 30 L S h Q = aW d 29 31 L (.int (nI 1) :: S) h Q := ax_iconst mt29 dX3_heldAfter_30 ic_1
theorem s29_31 : aW d 29 31 L (.int b :: .int a :: S) h Q = aW d 29 32 L (.int (a &&& b) :: S) h Q := ax_iand mt29 dX3_heldAfter_31
theorem s29_32 : aW d 29 32 L (.int a :: S) h Q = (if a = 0 then aW d 29 39 L S h Q else aW d 29 35 L S h Q) := ax_if_eq mt29 dX3_heldAfter_32 (by decide)
theorem s29_39 : aW d 29 39 L S h Q = aW d 29 40 L (.int (nI 0) :: S) h Q := ax_iconst mt29 dX3_heldAfter_39 ic_0
theorem s29_40 : aW d 29 40 [l0, l1, l2, l3, l4, l5] (.int a :: S) h Q = aW d 29 42 [l0, l1, l2, l3, l4, .int a] S h Q := ax_istore mt29 dX3_heldAfter_40 (Nat.le_of_ble_eq_true rfl) rfl
theorem s29_42 : aW d 29 42 [l0, l1, l2, l3, l4, .int a] S h Q = aW d 29 44 [l0, l1, l2, l3, l4, .int a] (.int a :: S) h Q := ax_iload mt29 dX3_heldAfter_42 rfl
theorem s29_44 : aW d 29 44 L (.int a :: S) h Q = (if a = 0 then aW d 29 84 L S h Q else aW d 29 47 L S h Q) := ax_if_eq mt29 dX3_heldAfter_44 (by decide)
theorem s29_47 : aW d 29 47 [.ref o, l1, l2, l3, l4, l5] S h Q = aW d 29 48 [.ref o, l1, l2, l3, l4, l5] (.ref o :: S) h Q := ax_aload_n mt29 dX3_heldAfter_47 rfl
theorem s29_48 (hT : gT h o = some (5, 4)) : aW d 29 48 L (.ref o :: S) h Q = (isRf (gR h o 0) = true ∧ aW d 29 51 L (gR h o 0 :: S) h Q) := ax_geta mt29 dX3_heldAfter_48 (by decide) ft_12310 fk_12310 hT
theorem s29_51 (hT : gT h o = some (8, 12)) : aW d 29 51 L (.ref o :: S) h Q = (isRf (gR h o 3) = true ∧ aW d 29 54 L (gR h o 3 :: S) h Q) := ax_geta mt29 dX3_heldAfter_51 (by decide) ft_12347 fk_12347 hT
theorem s29_54 : aW d 29 54 [l0, l1, l2, .int a, l4, l5] S h Q = aW d 29 55 [l0, l1, l2, .int a, l4, l5] (.int a :: S) h Q := ax_iload_n mt29 dX3_heldAfter_54 rfl
theorem s29_55 : aW d 29 55 L (.int a :: .ref o :: S) h Q = (inb a (aZ h o) ∧ aW d 29 56 L (.int (gI h o a.toNatClampNeg) :: S) h Q) := ax_zald mt29 dX3_heldAfter_55
theorem s29_56 : aW d 29 56 L (.int a :: S) h Q = (if a = 0 then aW d 29 59 L S h Q else aW d 29 75 L S h Q) := ax_if_ne mt29 dX3_heldAfter_56 (by decide)
theorem s29_59 : aW d 29 59 [.ref o, l1, l2, l3, l4, l5] S h Q = aW d 29 60 [.ref o, l1, l2, l3, l4, l5] (.ref o :: S) h Q := ax_aload_n mt29 dX3_heldAfter_59 rfl
theorem s29_60 (hT : gT h o = some (5, 4)) : aW d 29 60 L (.ref o :: S) h Q = (isRf (gR h o 0) = true ∧ aW d 29 63 L (gR h o 0 :: S) h Q) := ax_geta mt29 dX3_heldAfter_60 (by decide) ft_12310 fk_12310 hT
theorem s29_63 (hT : gT h o = some (8, 12)) : aW d 29 63 L (.ref o :: S) h Q = (isRf (gR h o 5) = true ∧ aW d 29 66 L (gR h o 5 :: S) h Q) := ax_geta mt29 dX3_heldAfter_63 (by decide) ft_12344 fk_12344 hT
theorem s29_66 : aW d 29 66 [l0, l1, l2, .int a, l4, l5] S h Q = aW d 29 67 [l0, l1, l2, .int a, l4, l5] (.int a :: S) h Q := ax_iload_n mt29 dX3_heldAfter_66 rfl
theorem s29_67 : aW d 29 67 L (.int a :: .ref o :: S) h Q = (inb a (aI h o) ∧ aW d 29 68 L (.int (gI h o a.toNatClampNeg) :: S) h Q) := ax_iald mt29 dX3_heldAfter_67
theorem s29_68 : aW d 29 68 [l0, .int a, l2, l3, l4, l5] S h Q = aW d 29 69 [l0, .int a, l2, l3, l4, l5] (.int a :: S) h Q := ax_iload_n mt29 dX3_heldAfter_68 rfl
theorem s29_69 : aW d 29 69 L S h Q = aW d 29 70 L (.int ((-1)) :: S) h Q := ax_iconst mt29 dX3_heldAfter_69 ic_m1
theorem s29_70 : aW d 29 70 L (.int b :: .int a :: S) h Q = aW d 29 71 L (.int (a ^^^ b) :: S) h Q := ax_ixor mt29 dX3_heldAfter_70
theorem s29_71 : aW d 29 71 L (.int b :: .int a :: S) h Q = aW d 29 72 L (.int (a &&& b) :: S) h Q := ax_iand mt29 dX3_heldAfter_71
theorem s29_72 : aW d 29 72 L (.int a :: S) h Q = (if a = 0 then aW d 29 84 L S h Q else aW d 29 75 L S h Q) := ax_if_eq mt29 dX3_heldAfter_72 (by decide)
theorem s29_75 : aW d 29 75 [l0, l1, .int a, l3, l4, l5] S h Q = aW d 29 76 [l0, l1, .int a, l3, l4, l5] (.int a :: S) h Q := ax_iload_n mt29 dX3_heldAfter_75 rfl
theorem s29_76 : aW d 29 76 [.ref o, l1, l2, l3, l4, l5] S h Q = aW d 29 77 [.ref o, l1, l2, l3, l4, l5] (.ref o :: S) h Q := ax_aload_n mt29 dX3_heldAfter_76 rfl
theorem s29_77 (hT : gT h o = some (5, 4)) : aW d 29 77 L (.ref o :: S) h Q = (isRf (gR h o 1) = true ∧ aW d 29 80 L (gR h o 1 :: S) h Q) := ax_geta mt29 dX3_heldAfter_77 (by decide) ft_12297 fk_12297 hT
theorem s29_80 : aW d 29 80 [l0, l1, l2, .int a, l4, l5] S h Q = aW d 29 81 [l0, l1, l2, .int a, l4, l5] (.int a :: S) h Q := ax_iload_n mt29 dX3_heldAfter_80 rfl
theorem s29_81 : aW d 29 81 L (.int a :: .ref o :: S) h Q = (inb a (aI h o) ∧ aW d 29 82 L (.int (gI h o a.toNatClampNeg) :: S) h Q) := ax_iald mt29 dX3_heldAfter_81
theorem s29_82 : aW d 29 82 L (.int b :: .int a :: S) h Q = aW d 29 83 L (.int (a + b) :: S) h Q := ax_iadd mt29 dX3_heldAfter_82
theorem s29_83 : aW d 29 83 [l0, l1, l2, l3, l4, l5] (.int a :: S) h Q = aW d 29 84 [l0, l1, .int a, l3, l4, l5] S h Q := ax_istore_n mt29 dX3_heldAfter_83 (Nat.le_of_ble_eq_true rfl) rfl
theorem s29_84 : aW d 29 84 [l0, l1, l2, .int a, l4, l5] S h Q = aW d 29 87 [l0, l1, l2, .int (a + nI 1), l4, l5] S h Q := ax_iinc mt29 dX3_heldAfter_84 rfl ic_1 rfl
theorem s29_87 : aW d 29 87 L S h Q = aW d 29 4 L S h Q := ax_goto mt29 dX3_heldAfter_87 (by decide)
theorem s29_35 : aW d 29 35 L S h Q = aW d 29 36 L (.int (nI 1) :: S) h Q := ax_iconst mt29 dX3_heldAfter_35 ic_1
theorem s29_36 : aW d 29 36 L S h Q = aW d 29 40 L S h Q := ax_goto mt29 dX3_heldAfter_36 (by decide)
theorem s29_90 : aW d 29 90 [l0, l1, .int a, l3, l4, l5] S h Q = aW d 29 91 [l0, l1, .int a, l3, l4, l5] (.int a :: S) h Q := ax_iload_n mt29 dX3_heldAfter_90 rfl
theorem s29_91 : aW d 29 91 L [.int a] h Q = Q (some (.int a)) h := ax_reti mt29 dX3_heldAfter_91 rfl
-- method 30: BufferRoom$Loads.loadAt(III)I
theorem dX3_loadAt_0 : decode cX3_loadAt 0 = .ok (.aload_n 0, 1) := by decide +kernel
theorem dX3_loadAt_1 : decode cX3_loadAt 1 = .ok (.getfield 9, 3) := by decide +kernel
theorem dX3_loadAt_4 : decode cX3_loadAt 4 = .ok (.aload_n 0, 1) := by decide +kernel
theorem dX3_loadAt_5 : decode cX3_loadAt 5 = .ok (.getfield 22, 3) := by decide +kernel
theorem dX3_loadAt_8 : decode cX3_loadAt 8 = .ok (.getfield 45, 3) := by decide +kernel
theorem dX3_loadAt_11 : decode cX3_loadAt 11 = .ok (.iload_n 2, 1) := by decide +kernel
theorem dX3_loadAt_12 : decode cX3_loadAt 12 = .ok (.iaload, 1) := by decide +kernel
theorem dX3_loadAt_13 : decode cX3_loadAt 13 = .ok (.iaload, 1) := by decide +kernel
theorem dX3_loadAt_14 : decode cX3_loadAt 14 = .ok (.istore 4, 2) := by decide +kernel
theorem dX3_loadAt_16 : decode cX3_loadAt 16 = .ok (.aload_n 0, 1) := by decide +kernel
theorem dX3_loadAt_17 : decode cX3_loadAt 17 = .ok (.iload_n 1, 1) := by decide +kernel
theorem dX3_loadAt_18 : decode cX3_loadAt 18 = .ok (.iload_n 2, 1) := by decide +kernel
theorem dX3_loadAt_19 : decode cX3_loadAt 19 = .ok (.invokevirtual 69, 3) := by decide +kernel
theorem dX3_loadAt_22 : decode cX3_loadAt 22 = .ok (.istore 5, 2) := by decide +kernel
theorem dX3_loadAt_24 : decode cX3_loadAt 24 = .ok (.iload 5, 2) := by decide +kernel
theorem dX3_loadAt_26 : decode cX3_loadAt 26 = .ok (.ifCond .ge 7, 3) := by decide +kernel
theorem dX3_loadAt_29 : decode cX3_loadAt 29 = .ok (.iconst 0, 1) := by decide +kernel
theorem dX3_loadAt_30 : decode cX3_loadAt 30 = .ok (.goto 15, 3) := by decide +kernel
theorem dX3_loadAt_33 : decode cX3_loadAt 33 = .ok (.aload_n 0, 1) := by decide +kernel
theorem dX3_loadAt_34 : decode cX3_loadAt 34 = .ok (.getfield 9, 3) := by decide +kernel
theorem dX3_loadAt_37 : decode cX3_loadAt 37 = .ok (.iload 5, 2) := by decide +kernel
theorem dX3_loadAt_39 : decode cX3_loadAt 39 = .ok (.iaload, 1) := by decide +kernel
theorem dX3_loadAt_40 : decode cX3_loadAt 40 = .ok (.iload 4, 2) := by decide +kernel
theorem dX3_loadAt_42 : decode cX3_loadAt 42 = .ok (.invokestatic 73, 3) := by decide +kernel
theorem dX3_loadAt_45 : decode cX3_loadAt 45 = .ok (.istore 6, 2) := by decide +kernel
theorem dX3_loadAt_47 : decode cX3_loadAt 47 = .ok (.aload_n 0, 1) := by decide +kernel
theorem dX3_loadAt_48 : decode cX3_loadAt 48 = .ok (.getfield 15, 3) := by decide +kernel
theorem dX3_loadAt_51 : decode cX3_loadAt 51 = .ok (.iload_n 2, 1) := by decide +kernel
theorem dX3_loadAt_52 : decode cX3_loadAt 52 = .ok (.iaload, 1) := by decide +kernel
theorem dX3_loadAt_53 : decode cX3_loadAt 53 = .ok (.iload_n 3, 1) := by decide +kernel
theorem dX3_loadAt_54 : decode cX3_loadAt 54 = .ok (.iadd, 1) := by decide +kernel
theorem dX3_loadAt_55 : decode cX3_loadAt 55 = .ok (.iload 4, 2) := by decide +kernel
theorem dX3_loadAt_57 : decode cX3_loadAt 57 = .ok (.iadd, 1) := by decide +kernel
theorem dX3_loadAt_58 : decode cX3_loadAt 58 = .ok (.iload 6, 2) := by decide +kernel
theorem dX3_loadAt_60 : decode cX3_loadAt 60 = .ok (.isub, 1) := by decide +kernel
theorem dX3_loadAt_61 : decode cX3_loadAt 61 = .ok (.ireturn, 1) := by decide +kernel
theorem s30_0 : aW d 30 0 [.ref o, l1, l2, l3, l4, l5, l6] S h Q = aW d 30 1 [.ref o, l1, l2, l3, l4, l5, l6] (.ref o :: S) h Q := ax_aload_n mt30 dX3_loadAt_0 rfl
theorem s30_1 (hT : gT h o = some (5, 4)) : aW d 30 1 L (.ref o :: S) h Q = (isRf (gR h o 1) = true ∧ aW d 30 4 L (gR h o 1 :: S) h Q) := ax_geta mt30 dX3_loadAt_1 (by decide) ft_12297 fk_12297 hT
theorem s30_4 : aW d 30 4 [.ref o, l1, l2, l3, l4, l5, l6] S h Q = aW d 30 5 [.ref o, l1, l2, l3, l4, l5, l6] (.ref o :: S) h Q := ax_aload_n mt30 dX3_loadAt_4 rfl
theorem s30_5 (hT : gT h o = some (5, 4)) : aW d 30 5 L (.ref o :: S) h Q = (isRf (gR h o 0) = true ∧ aW d 30 8 L (gR h o 0 :: S) h Q) := ax_geta mt30 dX3_loadAt_5 (by decide) ft_12310 fk_12310 hT
theorem s30_8 (hT : gT h o = some (8, 12)) : aW d 30 8 L (.ref o :: S) h Q = (isRf (gR h o 9) = true ∧ aW d 30 11 L (gR h o 9 :: S) h Q) := ax_geta mt30 dX3_loadAt_8 (by decide) ft_12333 fk_12333 hT
theorem s30_11 : aW d 30 11 [l0, l1, .int a, l3, l4, l5, l6] S h Q = aW d 30 12 [l0, l1, .int a, l3, l4, l5, l6] (.int a :: S) h Q := ax_iload_n mt30 dX3_loadAt_11 rfl
theorem s30_12 : aW d 30 12 L (.int a :: .ref o :: S) h Q = (inb a (aI h o) ∧ aW d 30 13 L (.int (gI h o a.toNatClampNeg) :: S) h Q) := ax_iald mt30 dX3_loadAt_12
theorem s30_13 : aW d 30 13 L (.int a :: .ref o :: S) h Q = (inb a (aI h o) ∧ aW d 30 14 L (.int (gI h o a.toNatClampNeg) :: S) h Q) := ax_iald mt30 dX3_loadAt_13
theorem s30_14 : aW d 30 14 [l0, l1, l2, l3, l4, l5, l6] (.int a :: S) h Q = aW d 30 16 [l0, l1, l2, l3, .int a, l5, l6] S h Q := ax_istore mt30 dX3_loadAt_14 (Nat.le_of_ble_eq_true rfl) rfl
theorem s30_16 : aW d 30 16 [.ref o, l1, l2, l3, l4, l5, l6] S h Q = aW d 30 17 [.ref o, l1, l2, l3, l4, l5, l6] (.ref o :: S) h Q := ax_aload_n mt30 dX3_loadAt_16 rfl
theorem s30_17 : aW d 30 17 [l0, .int a, l2, l3, l4, l5, l6] S h Q = aW d 30 18 [l0, .int a, l2, l3, l4, l5, l6] (.int a :: S) h Q := ax_iload_n mt30 dX3_loadAt_17 rfl
theorem s30_18 : aW d 30 18 [l0, l1, .int a, l3, l4, l5, l6] S h Q = aW d 30 19 [l0, l1, .int a, l3, l4, l5, l6] (.int a :: S) h Q := ax_iload_n mt30 dX3_loadAt_18 rfl
theorem s30_19 (hT : gT h o = some (5, 4)) : aW (d + 1) 30 19 L (.int x1 :: .int x0 :: .ref o :: []) h Q = aM d 27 (.ref o :: [.int x0, .int x1]) h (fun v h1 => aW (d + 1) 30 22 L (ab_ps v []) h1 Q) := ax_invv mt30 dX3_loadAt_19 (by decide) ct_12357 (.inl rfl) mt27 ⟨⟨Nat.le_of_ble_eq_true rfl, Nat.le_of_ble_eq_true rfl, Nat.le_of_ble_eq_true rfl⟩, rfl, rfl, rfl⟩ hT
theorem s30_22 : aW d 30 22 [l0, l1, l2, l3, l4, l5, l6] (.int a :: S) h Q = aW d 30 24 [l0, l1, l2, l3, l4, .int a, l6] S h Q := ax_istore mt30 dX3_loadAt_22 (Nat.le_of_ble_eq_true rfl) rfl
theorem s30_24 : aW d 30 24 [l0, l1, l2, l3, l4, .int a, l6] S h Q = aW d 30 26 [l0, l1, l2, l3, l4, .int a, l6] (.int a :: S) h Q := ax_iload mt30 dX3_loadAt_24 rfl
theorem s30_26 : aW d 30 26 L (.int a :: S) h Q = (if a < 0 then aW d 30 29 L S h Q else aW d 30 33 L S h Q) := ax_if_ge mt30 dX3_loadAt_26 (by decide)
theorem s30_29 : aW d 30 29 L S h Q = aW d 30 30 L (.int (nI 0) :: S) h Q := ax_iconst mt30 dX3_loadAt_29 ic_0
theorem s30_30 : aW d 30 30 L S h Q = aW d 30 45 L S h Q := ax_goto mt30 dX3_loadAt_30 (by decide)
theorem s30_45 : aW d 30 45 [l0, l1, l2, l3, l4, l5, l6] (.int a :: S) h Q = aW d 30 47 [l0, l1, l2, l3, l4, l5, .int a] S h Q := ax_istore mt30 dX3_loadAt_45 (Nat.le_of_ble_eq_true rfl) rfl
theorem s30_47 : aW d 30 47 [.ref o, l1, l2, l3, l4, l5, l6] S h Q = aW d 30 48 [.ref o, l1, l2, l3, l4, l5, l6] (.ref o :: S) h Q := ax_aload_n mt30 dX3_loadAt_47 rfl
theorem s30_48 (hT : gT h o = some (5, 4)) : aW d 30 48 L (.ref o :: S) h Q = (isRf (gR h o 2) = true ∧ aW d 30 51 L (gR h o 2 :: S) h Q) := ax_geta mt30 dX3_loadAt_48 (by decide) ft_12303 fk_12303 hT
theorem s30_51 : aW d 30 51 [l0, l1, .int a, l3, l4, l5, l6] S h Q = aW d 30 52 [l0, l1, .int a, l3, l4, l5, l6] (.int a :: S) h Q := ax_iload_n mt30 dX3_loadAt_51 rfl
theorem s30_52 : aW d 30 52 L (.int a :: .ref o :: S) h Q = (inb a (aI h o) ∧ aW d 30 53 L (.int (gI h o a.toNatClampNeg) :: S) h Q) := ax_iald mt30 dX3_loadAt_52
theorem s30_53 : aW d 30 53 [l0, l1, l2, .int a, l4, l5, l6] S h Q = aW d 30 54 [l0, l1, l2, .int a, l4, l5, l6] (.int a :: S) h Q := ax_iload_n mt30 dX3_loadAt_53 rfl
theorem s30_54 : aW d 30 54 L (.int b :: .int a :: S) h Q = aW d 30 55 L (.int (a + b) :: S) h Q := ax_iadd mt30 dX3_loadAt_54
theorem s30_55 : aW d 30 55 [l0, l1, l2, l3, .int a, l5, l6] S h Q = aW d 30 57 [l0, l1, l2, l3, .int a, l5, l6] (.int a :: S) h Q := ax_iload mt30 dX3_loadAt_55 rfl
theorem s30_57 : aW d 30 57 L (.int b :: .int a :: S) h Q = aW d 30 58 L (.int (a + b) :: S) h Q := ax_iadd mt30 dX3_loadAt_57
theorem s30_58 : aW d 30 58 [l0, l1, l2, l3, l4, l5, .int a] S h Q = aW d 30 60 [l0, l1, l2, l3, l4, l5, .int a] (.int a :: S) h Q := ax_iload mt30 dX3_loadAt_58 rfl
theorem s30_60 : aW d 30 60 L (.int b :: .int a :: S) h Q = aW d 30 61 L (.int (a - b) :: S) h Q := ax_isub mt30 dX3_loadAt_60
theorem s30_61 : aW d 30 61 L [.int a] h Q = Q (some (.int a)) h := ax_reti mt30 dX3_loadAt_61 rfl
theorem s30_33 : aW d 30 33 [.ref o, l1, l2, l3, l4, l5, l6] S h Q = aW d 30 34 [.ref o, l1, l2, l3, l4, l5, l6] (.ref o :: S) h Q := ax_aload_n mt30 dX3_loadAt_33 rfl
theorem s30_34 (hT : gT h o = some (5, 4)) : aW d 30 34 L (.ref o :: S) h Q = (isRf (gR h o 1) = true ∧ aW d 30 37 L (gR h o 1 :: S) h Q) := ax_geta mt30 dX3_loadAt_34 (by decide) ft_12297 fk_12297 hT
theorem s30_37 : aW d 30 37 [l0, l1, l2, l3, l4, .int a, l6] S h Q = aW d 30 39 [l0, l1, l2, l3, l4, .int a, l6] (.int a :: S) h Q := ax_iload mt30 dX3_loadAt_37 rfl
theorem s30_39 : aW d 30 39 L (.int a :: .ref o :: S) h Q = (inb a (aI h o) ∧ aW d 30 40 L (.int (gI h o a.toNatClampNeg) :: S) h Q) := ax_iald mt30 dX3_loadAt_39
theorem s30_40 : aW d 30 40 [l0, l1, l2, l3, .int a, l5, l6] S h Q = aW d 30 42 [l0, l1, l2, l3, .int a, l5, l6] (.int a :: S) h Q := ax_iload mt30 dX3_loadAt_40 rfl
theorem s30_42 : aW (d + 1) 30 42 L (.int b :: .int a :: []) h Q = aW (d + 1) 30 45 L (.int (iMin a b) :: []) h Q := ax_min mt30 dX3_loadAt_42 (by decide) ct_12361 (Nat.le_of_ble_eq_true rfl)
-- method 31: BufferRoom$Orders.<init>()V
theorem dX4_init_0 : decode cX4_init 0 = .ok (.aload_n 0, 1) := by decide +kernel
theorem dX4_init_1 : decode cX4_init 1 = .ok (.invokespecial 3, 3) := by decide +kernel
theorem dX4_init_4 : decode cX4_init 4 = .ok (.aload_n 0, 1) := by decide +kernel
theorem dX4_init_5 : decode cX4_init 5 = .ok (.sipush 1024, 3) := by decide +kernel
theorem dX4_init_8 : decode cX4_init 8 = .ok (.newarray .int, 2) := by decide +kernel
theorem dX4_init_10 : decode cX4_init 10 = .ok (.putfield 9, 3) := by decide +kernel
theorem dX4_init_13 : decode cX4_init 13 = .ok (.aload_n 0, 1) := by decide +kernel
theorem dX4_init_14 : decode cX4_init 14 = .ok (.bipush 10, 2) := by decide +kernel
theorem dX4_init_16 : decode cX4_init 16 = .ok (.newarray .int, 2) := by decide +kernel
theorem dX4_init_18 : decode cX4_init 18 = .ok (.putfield 15, 3) := by decide +kernel
theorem dX4_init_21 : decode cX4_init 21 = .ok (.return_, 1) := by decide +kernel
theorem s31_0 : aW d 31 0 [.ref o] S h Q = aW d 31 1 [.ref o] (.ref o :: S) h Q := ax_aload_n mt31 dX4_init_0 rfl
theorem s31_1 : aW (d + 1) 31 1 L (.ref o :: []) h Q = aW (d + 1) 31 4 L [] h Q := ax_obj mt31 dX4_init_1 (by decide) ct_16387 (Nat.le_of_ble_eq_true rfl)
theorem s31_4 : aW d 31 4 [.ref o] S h Q = aW d 31 5 [.ref o] (.ref o :: S) h Q := ax_aload_n mt31 dX4_init_4 rfl
theorem s31_5 : aW d 31 5 L S h Q = aW d 31 8 L (.int (nI 1024) :: S) h Q := ax_sipush mt31 dX4_init_5 sp_1024
theorem s31_8 (hn : ¬ a < 0 ∧ a.toNatClampNeg ≤ 100000) : aW d 31 8 L (.int a :: S) h Q = aW d 31 10 L (.ref h.1.length :: S) (nO h 0 a.toNatClampNeg) Q := ax_newi mt31 dX4_init_8 hn
theorem s31_10 (hT : gT h o = some (6, 4)) : aW d 31 10 L (.ref o2 :: .ref o :: S) h Q = aW d 31 13 L S (pR h o 2 (.ref o2)) Q := ax_puta mt31 dX4_init_10 (by decide) ft_16393 (fun q => q.2 ⟨rfl, rfl, rfl⟩) fp_16393 hT
theorem s31_13 : aW d 31 13 [.ref o] S h Q = aW d 31 14 [.ref o] (.ref o :: S) h Q := ax_aload_n mt31 dX4_init_13 rfl
theorem s31_14 : aW d 31 14 L S h Q = aW d 31 16 L (.int (nI 10) :: S) h Q := ax_bipush mt31 dX4_init_14 bp_10
theorem s31_16 (hn : ¬ a < 0 ∧ a.toNatClampNeg ≤ 100000) : aW d 31 16 L (.int a :: S) h Q = aW d 31 18 L (.ref h.1.length :: S) (nO h 0 a.toNatClampNeg) Q := ax_newi mt31 dX4_init_16 hn
theorem s31_18 (hT : gT h o = some (6, 4)) : aW d 31 18 L (.ref o2 :: .ref o :: S) h Q = aW d 31 21 L S (pR h o 3 (.ref o2)) Q := ax_puta mt31 dX4_init_18 (by decide) ft_16399 (fun q => q.2 ⟨rfl, rfl, rfl⟩) fp_16399 hT
theorem s31_21 : aW d 31 21 L [] h Q = Q none h := ax_retv mt31 dX4_init_21 rfl
-- method 32: BufferRoom$Orders.find(LBufferRoom$Loads;)V
theorem dX4_find_0 : decode cX4_find 0 = .ok (.aload_n 0, 1) := by decide +kernel
theorem dX4_find_1 : decode cX4_find 1 = .ok (.getfield 18, 3) := by decide +kernel
theorem dX4_find_4 : decode cX4_find 4 = .ok (.ifCond .eq 4, 3) := by decide +kernel
theorem dX4_find_7 : decode cX4_find 7 = .ok (.return_, 1) := by decide +kernel
theorem dX4_find_8 : decode cX4_find 8 = .ok (.iconst 1, 1) := by decide +kernel
theorem dX4_find_9 : decode cX4_find 9 = .ok (.aload_n 1, 1) := by decide +kernel
theorem dX4_find_10 : decode cX4_find 10 = .ok (.getfield 22, 3) := by decide +kernel
theorem dX4_find_13 : decode cX4_find 13 = .ok (.getfield 28, 3) := by decide +kernel
theorem dX4_find_16 : decode cX4_find 16 = .ok (.ishl, 1) := by decide +kernel
theorem dX4_find_17 : decode cX4_find 17 = .ok (.iconst 1, 1) := by decide +kernel
theorem dX4_find_18 : decode cX4_find 18 = .ok (.isub, 1) := by decide +kernel
theorem dX4_find_19 : decode cX4_find 19 = .ok (.istore_n 2, 1) := by decide +kernel
theorem dX4_find_20 : decode cX4_find 20 = .ok (.aload_n 0, 1) := by decide +kernel
theorem dX4_find_21 : decode cX4_find 21 = .ok (.iconst 0, 1) := by decide +kernel
theorem dX4_find_22 : decode cX4_find 22 = .ok (.putfield 34, 3) := by decide +kernel
theorem dX4_find_25 : decode cX4_find 25 = .ok (.iload_n 2, 1) := by decide +kernel
theorem dX4_find_26 : decode cX4_find 26 = .ok (.istore_n 3, 1) := by decide +kernel
theorem dX4_find_27 : decode cX4_find 27 = .ok (.iload_n 3, 1) := by decide +kernel
theorem dX4_find_28 : decode cX4_find 28 = .ok (.ifCond .lt 51, 3) := by decide +kernel
theorem dX4_find_31 : decode cX4_find 31 = .ok (.aload_n 0, 1) := by decide +kernel
theorem dX4_find_32 : decode cX4_find 32 = .ok (.getfield 9, 3) := by decide +kernel
theorem dX4_find_35 : decode cX4_find 35 = .ok (.iload_n 3, 1) := by decide +kernel
theorem dX4_find_36 : decode cX4_find 36 = .ok (.iload_n 3, 1) := by decide +kernel
theorem dX4_find_37 : decode cX4_find 37 = .ok (.iload_n 2, 1) := by decide +kernel
theorem dX4_find_38 : decode cX4_find 38 = .ok (.if_icmp .ne 7, 3) := by decide +kernel
theorem dX4_find_41 : decode cX4_find 41 = .ok (.iconst 0, 1) := by decide +kernel
theorem dX4_find_42 : decode cX4_find 42 = .ok (.goto 9, 3) := by decide +kernel
theorem dX4_find_45 : decode cX4_find 45 = .ok (.aload_n 0, 1) := by decide +kernel
theorem dX4_find_46 : decode cX4_find 46 = .ok (.aload_n 1, 1) := by decide +kernel
theorem dX4_find_47 : decode cX4_find 47 = .ok (.iload_n 3, 1) := by decide +kernel
theorem dX4_find_48 : decode cX4_find 48 = .ok (.invokevirtual 37, 3) := by decide +kernel
theorem dX4_find_51 : decode cX4_find 51 = .ok (.iastore, 1) := by decide +kernel
theorem dX4_find_52 : decode cX4_find 52 = .ok (.aload_n 0, 1) := by decide +kernel
theorem dX4_find_53 : decode cX4_find 53 = .ok (.getfield 9, 3) := by decide +kernel
theorem dX4_find_56 : decode cX4_find 56 = .ok (.iload_n 3, 1) := by decide +kernel
theorem dX4_find_57 : decode cX4_find 57 = .ok (.iaload, 1) := by decide +kernel
theorem dX4_find_58 : decode cX4_find 58 = .ok (.ldc 41, 2) := by decide +kernel
theorem dX4_find_60 : decode cX4_find 60 = .ok (.if_icmp .eq 13, 3) := by decide +kernel
theorem dX4_find_63 : decode cX4_find 63 = .ok (.aload_n 0, 1) := by decide +kernel
theorem dX4_find_64 : decode cX4_find 64 = .ok (.dup, 1) := by decide +kernel
theorem dX4_find_65 : decode cX4_find 65 = .ok (.getfield 34, 3) := by decide +kernel
theorem dX4_find_68 : decode cX4_find 68 = .ok (.iconst 1, 1) := by decide +kernel
theorem dX4_find_69 : decode cX4_find 69 = .ok (.iadd, 1) := by decide +kernel
theorem dX4_find_70 : decode cX4_find 70 = .ok (.putfield 34, 3) := by decide +kernel
theorem dX4_find_73 : decode cX4_find 73 = .ok (.iinc 3 (-1), 3) := by decide +kernel
theorem dX4_find_76 : decode cX4_find 76 = .ok (.goto (-49), 3) := by decide +kernel
theorem dX4_find_79 : decode cX4_find 79 = .ok (.aload_n 0, 1) := by decide +kernel
theorem dX4_find_80 : decode cX4_find 80 = .ok (.aload_n 1, 1) := by decide +kernel
theorem dX4_find_81 : decode cX4_find 81 = .ok (.invokevirtual 42, 3) := by decide +kernel
theorem dX4_find_84 : decode cX4_find 84 = .ok (.aload_n 0, 1) := by decide +kernel
theorem dX4_find_85 : decode cX4_find 85 = .ok (.iconst 1, 1) := by decide +kernel
theorem dX4_find_86 : decode cX4_find 86 = .ok (.putfield 18, 3) := by decide +kernel
theorem dX4_find_89 : decode cX4_find 89 = .ok (.return_, 1) := by decide +kernel
theorem s32_0 : aW d 32 0 [.ref o, l1, l2, l3] S h Q = aW d 32 1 [.ref o, l1, l2, l3] (.ref o :: S) h Q := ax_aload_n mt32 dX4_find_0 rfl
theorem s32_1 (hT : gT h o = some (6, 4)) : aW d 32 1 L (.ref o :: S) h Q = aW d 32 4 L (.int (gI h o 0) :: S) h Q := ax_geti mt32 dX4_find_1 (by decide) ft_16402 fk_16402 hT
theorem s32_4 : aW d 32 4 L (.int a :: S) h Q = (if a = 0 then aW d 32 8 L S h Q else aW d 32 7 L S h Q) := ax_if_eq mt32 dX4_find_4 (by decide)
theorem s32_7 : aW d 32 7 L [] h Q = Q none h := ax_retv mt32 dX4_find_7 rfl
theorem s32_8 : aW d 32 8 L S h Q = aW d 32 9 L (.int (nI 1) :: S) h Q := ax_iconst mt32 dX4_find_8 ic_1
theorem s32_9 : aW d 32 9 [l0, .ref o, l2, l3] S h Q = aW d 32 10 [l0, .ref o, l2, l3] (.ref o :: S) h Q := ax_aload_n mt32 dX4_find_9 rfl
theorem s32_10 (hT : gT h o = some (5, 4)) : aW d 32 10 L (.ref o :: S) h Q = (isRf (gR h o 0) = true ∧ aW d 32 13 L (gR h o 0 :: S) h Q) := ax_geta mt32 dX4_find_10 (by decide) ft_16406 fk_16406 hT
theorem s32_13 (hT : gT h o = some (8, 12)) : aW d 32 13 L (.ref o :: S) h Q = aW d 32 16 L (.int (gI h o 6) :: S) h Q := ax_geti mt32 dX4_find_13 (by decide) ft_16412 fk_16412 hT
theorem s32_16 : aW d 32 16 L (.int b :: .int a :: S) h Q = aW d 32 17 L (.int (a <<< (b &&& 31)) :: S) h Q := ax_ishl mt32 dX4_find_16
theorem s32_17 : aW d 32 17 L S h Q = aW d 32 18 L (.int (nI 1) :: S) h Q := ax_iconst mt32 dX4_find_17 ic_1
theorem s32_18 : aW d 32 18 L (.int b :: .int a :: S) h Q = aW d 32 19 L (.int (a - b) :: S) h Q := ax_isub mt32 dX4_find_18
theorem s32_19 : aW d 32 19 [l0, l1, l2, l3] (.int a :: S) h Q = aW d 32 20 [l0, l1, .int a, l3] S h Q := ax_istore_n mt32 dX4_find_19 (Nat.le_of_ble_eq_true rfl) rfl
theorem s32_20 : aW d 32 20 [.ref o, l1, l2, l3] S h Q = aW d 32 21 [.ref o, l1, l2, l3] (.ref o :: S) h Q := ax_aload_n mt32 dX4_find_20 rfl
theorem s32_21 : aW d 32 21 L S h Q = aW d 32 22 L (.int (nI 0) :: S) h Q := ax_iconst mt32 dX4_find_21 ic_0
theorem s32_22 (hT : gT h o = some (6, 4)) : aW d 32 22 L (.int a :: .ref o :: S) h Q = aW d 32 25 L S (pI h o 1 a) Q := ax_puti mt32 dX4_find_22 (by decide) ft_16418 (fun q => fn_16418 q.1) fp_16418 hT
theorem s32_25 : aW d 32 25 [l0, l1, .int a, l3] S h Q = aW d 32 26 [l0, l1, .int a, l3] (.int a :: S) h Q := ax_iload_n mt32 dX4_find_25 rfl
theorem s32_26 : aW d 32 26 [l0, l1, l2, l3] (.int a :: S) h Q = aW d 32 27 [l0, l1, l2, .int a] S h Q := ax_istore_n mt32 dX4_find_26 (Nat.le_of_ble_eq_true rfl) rfl
theorem s32_27 : aW d 32 27 [l0, l1, l2, .int a] S h Q = aW d 32 28 [l0, l1, l2, .int a] (.int a :: S) h Q := ax_iload_n mt32 dX4_find_27 rfl
theorem s32_28 : aW d 32 28 L (.int a :: S) h Q = (if a < 0 then aW d 32 79 L S h Q else aW d 32 31 L S h Q) := ax_if_lt mt32 dX4_find_28 (by decide)
theorem s32_31 : aW d 32 31 [.ref o, l1, l2, l3] S h Q = aW d 32 32 [.ref o, l1, l2, l3] (.ref o :: S) h Q := ax_aload_n mt32 dX4_find_31 rfl
theorem s32_32 (hT : gT h o = some (6, 4)) : aW d 32 32 L (.ref o :: S) h Q = (isRf (gR h o 2) = true ∧ aW d 32 35 L (gR h o 2 :: S) h Q) := ax_geta mt32 dX4_find_32 (by decide) ft_16393 fk_16393 hT
theorem s32_35 : aW d 32 35 [l0, l1, l2, .int a] S h Q = aW d 32 36 [l0, l1, l2, .int a] (.int a :: S) h Q := ax_iload_n mt32 dX4_find_35 rfl
theorem s32_36 : aW d 32 36 [l0, l1, l2, .int a] S h Q = aW d 32 37 [l0, l1, l2, .int a] (.int a :: S) h Q := ax_iload_n mt32 dX4_find_36 rfl
theorem s32_37 : aW d 32 37 [l0, l1, .int a, l3] S h Q = aW d 32 38 [l0, l1, .int a, l3] (.int a :: S) h Q := ax_iload_n mt32 dX4_find_37 rfl
theorem s32_38 : aW d 32 38 L (.int b :: .int a :: S) h Q = (if a = b then aW d 32 41 L S h Q else aW d 32 45 L S h Q) := ax_icmp_ne mt32 dX4_find_38 (by decide)
theorem s32_41 : aW d 32 41 L S h Q = aW d 32 42 L (.int (nI 0) :: S) h Q := ax_iconst mt32 dX4_find_41 ic_0
theorem s32_42 : aW d 32 42 L S h Q = aW d 32 51 L S h Q := ax_goto mt32 dX4_find_42 (by decide)
theorem s32_51 : aW d 32 51 L (.int b :: .int a :: .ref o :: S) h Q = (inb a (aJ h o) ∧ aW d 32 52 L S (pI h o a.toNatClampNeg b) Q) := ax_iast mt32 dX4_find_51
theorem s32_52 : aW d 32 52 [.ref o, l1, l2, l3] S h Q = aW d 32 53 [.ref o, l1, l2, l3] (.ref o :: S) h Q := ax_aload_n mt32 dX4_find_52 rfl
theorem s32_53 (hT : gT h o = some (6, 4)) : aW d 32 53 L (.ref o :: S) h Q = (isRf (gR h o 2) = true ∧ aW d 32 56 L (gR h o 2 :: S) h Q) := ax_geta mt32 dX4_find_53 (by decide) ft_16393 fk_16393 hT
theorem s32_56 : aW d 32 56 [l0, l1, l2, .int a] S h Q = aW d 32 57 [l0, l1, l2, .int a] (.int a :: S) h Q := ax_iload_n mt32 dX4_find_56 rfl
theorem s32_57 : aW d 32 57 L (.int a :: .ref o :: S) h Q = (inb a (aI h o) ∧ aW d 32 58 L (.int (gI h o a.toNatClampNeg) :: S) h Q) := ax_iald mt32 dX4_find_57
theorem s32_58 : aW d 32 58 L S h Q = aW d 32 60 L (.int 2147483647 :: S) h Q := ax_ldc mt32 dX4_find_58 (by decide) kt_16425
theorem s32_60 : aW d 32 60 L (.int b :: .int a :: S) h Q = (if a = b then aW d 32 73 L S h Q else aW d 32 63 L S h Q) := ax_icmp_eq mt32 dX4_find_60 (by decide)
theorem s32_63 : aW d 32 63 [.ref o, l1, l2, l3] S h Q = aW d 32 64 [.ref o, l1, l2, l3] (.ref o :: S) h Q := ax_aload_n mt32 dX4_find_63 rfl
theorem s32_64 : aW d 32 64 L (.ref o :: S) h Q = aW d 32 65 L (.ref o :: .ref o :: S) h Q := ax_dupa mt32 dX4_find_64
theorem s32_65 (hT : gT h o = some (6, 4)) : aW d 32 65 L (.ref o :: S) h Q = aW d 32 68 L (.int (gI h o 1) :: S) h Q := ax_geti mt32 dX4_find_65 (by decide) ft_16418 fk_16418 hT
theorem s32_68 : aW d 32 68 L S h Q = aW d 32 69 L (.int (nI 1) :: S) h Q := ax_iconst mt32 dX4_find_68 ic_1
theorem s32_69 : aW d 32 69 L (.int b :: .int a :: S) h Q = aW d 32 70 L (.int (a + b) :: S) h Q := ax_iadd mt32 dX4_find_69
theorem s32_70 (hT : gT h o = some (6, 4)) : aW d 32 70 L (.int a :: .ref o :: S) h Q = aW d 32 73 L S (pI h o 1 a) Q := ax_puti mt32 dX4_find_70 (by decide) ft_16418 (fun q => fn_16418 q.1) fp_16418 hT
theorem s32_73 : aW d 32 73 [l0, l1, l2, .int a] S h Q = aW d 32 76 [l0, l1, l2, .int (a + (-1))] S h Q := ax_iinc mt32 dX4_find_73 rfl ic_m1 rfl
theorem s32_76 : aW d 32 76 L S h Q = aW d 32 27 L S h Q := ax_goto mt32 dX4_find_76 (by decide)
theorem s32_45 : aW d 32 45 [.ref o, l1, l2, l3] S h Q = aW d 32 46 [.ref o, l1, l2, l3] (.ref o :: S) h Q := ax_aload_n mt32 dX4_find_45 rfl
theorem s32_46 : aW d 32 46 [l0, .ref o, l2, l3] S h Q = aW d 32 47 [l0, .ref o, l2, l3] (.ref o :: S) h Q := ax_aload_n mt32 dX4_find_46 rfl
theorem s32_47 : aW d 32 47 [l0, l1, l2, .int a] S h Q = aW d 32 48 [l0, l1, l2, .int a] (.int a :: S) h Q := ax_iload_n mt32 dX4_find_47 rfl
theorem s32_48 (hT : gT h o = some (6, 4)) : aW (d + 1) 32 48 L (.int x1 :: .ref p0 :: .ref o :: [.int y0, .ref q1]) h Q = aM d 33 (.ref o :: [.ref p0, .int x1]) h (fun v h1 => aW (d + 1) 32 51 L (ab_ps v [.int y0, .ref q1]) h1 Q) := ax_invv mt32 dX4_find_48 (by decide) ct_16421 (.inl rfl) mt33 ⟨⟨Nat.le_of_ble_eq_true rfl, Nat.le_of_ble_eq_true rfl, Nat.le_of_ble_eq_true rfl⟩, rfl, rfl, rfl⟩ hT
theorem s32_79 : aW d 32 79 [.ref o, l1, l2, l3] S h Q = aW d 32 80 [.ref o, l1, l2, l3] (.ref o :: S) h Q := ax_aload_n mt32 dX4_find_79 rfl
theorem s32_80 : aW d 32 80 [l0, .ref o, l2, l3] S h Q = aW d 32 81 [l0, .ref o, l2, l3] (.ref o :: S) h Q := ax_aload_n mt32 dX4_find_80 rfl
theorem s32_81 (hT : gT h o = some (6, 4)) : aW (d + 1) 32 81 L (.ref p0 :: .ref o :: []) h Q = aM d 35 (.ref o :: [.ref p0]) h (fun v h1 => aW (d + 1) 32 84 L (ab_ps v []) h1 Q) := ax_invv mt32 dX4_find_81 (by decide) ct_16426 (.inl rfl) mt35 ⟨⟨Nat.le_of_ble_eq_true rfl, Nat.le_of_ble_eq_true rfl, Nat.le_of_ble_eq_true rfl⟩, rfl, rfl, rfl⟩ hT
theorem s32_84 : aW d 32 84 [.ref o, l1, l2, l3] S h Q = aW d 32 85 [.ref o, l1, l2, l3] (.ref o :: S) h Q := ax_aload_n mt32 dX4_find_84 rfl
theorem s32_85 : aW d 32 85 L S h Q = aW d 32 86 L (.int (nI 1) :: S) h Q := ax_iconst mt32 dX4_find_85 ic_1
theorem s32_86 (hT : gT h o = some (6, 4)) : aW d 32 86 L (.int a :: .ref o :: S) h Q = (b01 a ∧ aW d 32 89 L S (pI h o 0 a) Q) := ax_putz mt32 dX4_find_86 (by decide) ft_16402 (fun q => fn_16402 q.1) fp_16402 hT
theorem s32_89 : aW d 32 89 L [] h Q = Q none h := ax_retv mt32 dX4_find_89 rfl
-- method 33: BufferRoom$Orders.leastFrom(LBufferRoom$Loads;I)I
theorem dX4_leastFrom_0 : decode cX4_leastFrom 0 = .ok (.ldc 41, 2) := by decide +kernel
theorem dX4_leastFrom_2 : decode cX4_leastFrom 2 = .ok (.istore_n 3, 1) := by decide +kernel
theorem dX4_leastFrom_3 : decode cX4_leastFrom 3 = .ok (.aload_n 1, 1) := by decide +kernel
theorem dX4_leastFrom_4 : decode cX4_leastFrom 4 = .ok (.iload_n 2, 1) := by decide +kernel
theorem dX4_leastFrom_5 : decode cX4_leastFrom 5 = .ok (.invokevirtual 46, 3) := by decide +kernel
theorem dX4_leastFrom_8 : decode cX4_leastFrom 8 = .ok (.istore 4, 2) := by decide +kernel
theorem dX4_leastFrom_10 : decode cX4_leastFrom 10 = .ok (.iconst 0, 1) := by decide +kernel
theorem dX4_leastFrom_11 : decode cX4_leastFrom 11 = .ok (.istore 5, 2) := by decide +kernel
theorem dX4_leastFrom_13 : decode cX4_leastFrom 13 = .ok (.iload 5, 2) := by decide +kernel
theorem dX4_leastFrom_15 : decode cX4_leastFrom 15 = .ok (.aload_n 1, 1) := by decide +kernel
theorem dX4_leastFrom_16 : decode cX4_leastFrom 16 = .ok (.getfield 22, 3) := by decide +kernel
theorem dX4_leastFrom_19 : decode cX4_leastFrom 19 = .ok (.getfield 28, 3) := by decide +kernel
theorem dX4_leastFrom_22 : decode cX4_leastFrom 22 = .ok (.if_icmp .ge 46, 3) := by decide +kernel
theorem dX4_leastFrom_25 : decode cX4_leastFrom 25 = .ok (.iload_n 2, 1) := by decide +kernel
theorem dX4_leastFrom_26 : decode cX4_leastFrom 26 = .ok (.iload 5, 2) := by decide +kernel
theorem dX4_leastFrom_28 : decode cX4_leastFrom 28 = .ok (.ishr, 1) := by decide +kernel
theorem dX4_leastFrom_29 : decode cX4_leastFrom 29 = .ok (.iconst 1, 1) := by decide +kernel
theorem dX4_leastFrom_30 : decode cX4_leastFrom 30 = .ok (.iand, 1) := by decide +kernel
theorem dX4_leastFrom_31 : decode cX4_leastFrom 31 = .ok (.ifCond .ne 31, 3) := by decide +kernel
theorem dX4_leastFrom_34 : decode cX4_leastFrom 34 = .ok (.aload_n 1, 1) := by decide +kernel
theorem dX4_leastFrom_35 : decode cX4_leastFrom 35 = .ok (.getfield 22, 3) := by decide +kernel
theorem dX4_leastFrom_38 : decode cX4_leastFrom 38 = .ok (.iload 5, 2) := by decide +kernel
theorem dX4_leastFrom_40 : decode cX4_leastFrom 40 = .ok (.iload_n 2, 1) := by decide +kernel
theorem dX4_leastFrom_41 : decode cX4_leastFrom 41 = .ok (.invokevirtual 50, 3) := by decide +kernel
theorem dX4_leastFrom_44 : decode cX4_leastFrom 44 = .ok (.ifCond .eq 18, 3) := by decide +kernel
theorem dX4_leastFrom_47 : decode cX4_leastFrom 47 = .ok (.iload_n 3, 1) := by decide +kernel
theorem dX4_leastFrom_48 : decode cX4_leastFrom 48 = .ok (.aload_n 0, 1) := by decide +kernel
theorem dX4_leastFrom_49 : decode cX4_leastFrom 49 = .ok (.aload_n 1, 1) := by decide +kernel
theorem dX4_leastFrom_50 : decode cX4_leastFrom 50 = .ok (.iload_n 2, 1) := by decide +kernel
theorem dX4_leastFrom_51 : decode cX4_leastFrom 51 = .ok (.iload 5, 2) := by decide +kernel
theorem dX4_leastFrom_53 : decode cX4_leastFrom 53 = .ok (.iload 4, 2) := by decide +kernel
theorem dX4_leastFrom_55 : decode cX4_leastFrom 55 = .ok (.invokevirtual 54, 3) := by decide +kernel
theorem dX4_leastFrom_58 : decode cX4_leastFrom 58 = .ok (.invokestatic 58, 3) := by decide +kernel
theorem dX4_leastFrom_61 : decode cX4_leastFrom 61 = .ok (.istore_n 3, 1) := by decide +kernel
theorem dX4_leastFrom_62 : decode cX4_leastFrom 62 = .ok (.iinc 5 1, 3) := by decide +kernel
theorem dX4_leastFrom_65 : decode cX4_leastFrom 65 = .ok (.goto (-52), 3) := by decide +kernel
theorem dX4_leastFrom_68 : decode cX4_leastFrom 68 = .ok (.iload_n 3, 1) := by decide +kernel
theorem dX4_leastFrom_69 : decode cX4_leastFrom 69 = .ok (.ireturn, 1) := by decide +kernel
theorem s33_0 : aW d 33 0 L S h Q = aW d 33 2 L (.int 2147483647 :: S) h Q := ax_ldc mt33 dX4_leastFrom_0 (by decide) kt_16425
theorem s33_2 : aW d 33 2 [l0, l1, l2, l3, l4, l5] (.int a :: S) h Q = aW d 33 3 [l0, l1, l2, .int a, l4, l5] S h Q := ax_istore_n mt33 dX4_leastFrom_2 (Nat.le_of_ble_eq_true rfl) rfl
theorem s33_3 : aW d 33 3 [l0, .ref o, l2, l3, l4, l5] S h Q = aW d 33 4 [l0, .ref o, l2, l3, l4, l5] (.ref o :: S) h Q := ax_aload_n mt33 dX4_leastFrom_3 rfl
theorem s33_4 : aW d 33 4 [l0, l1, .int a, l3, l4, l5] S h Q = aW d 33 5 [l0, l1, .int a, l3, l4, l5] (.int a :: S) h Q := ax_iload_n mt33 dX4_leastFrom_4 rfl
theorem s33_5 (hT : gT h o = some (5, 4)) : aW (d + 1) 33 5 L (.int x0 :: .ref o :: []) h Q = aM d 29 (.ref o :: [.int x0]) h (fun v h1 => aW (d + 1) 33 8 L (ab_ps v []) h1 Q) := ax_invv mt33 dX4_leastFrom_5 (by decide) ct_16430 (.inl rfl) mt29 ⟨⟨Nat.le_of_ble_eq_true rfl, Nat.le_of_ble_eq_true rfl, Nat.le_of_ble_eq_true rfl⟩, rfl, rfl, rfl⟩ hT
theorem s33_8 : aW d 33 8 [l0, l1, l2, l3, l4, l5] (.int a :: S) h Q = aW d 33 10 [l0, l1, l2, l3, .int a, l5] S h Q := ax_istore mt33 dX4_leastFrom_8 (Nat.le_of_ble_eq_true rfl) rfl
theorem s33_10 : aW d 33 10 L S h Q = aW d 33 11 L (.int (nI 0) :: S) h Q := ax_iconst mt33 dX4_leastFrom_10 ic_0
theorem s33_11 : aW d 33 11 [l0, l1, l2, l3, l4, l5] (.int a :: S) h Q = aW d 33 13 [l0, l1, l2, l3, l4, .int a] S h Q := ax_istore mt33 dX4_leastFrom_11 (Nat.le_of_ble_eq_true rfl) rfl
theorem s33_13 : aW d 33 13 [l0, l1, l2, l3, l4, .int a] S h Q = aW d 33 15 [l0, l1, l2, l3, l4, .int a] (.int a :: S) h Q := ax_iload mt33 dX4_leastFrom_13 rfl
theorem s33_15 : aW d 33 15 [l0, .ref o, l2, l3, l4, l5] S h Q = aW d 33 16 [l0, .ref o, l2, l3, l4, l5] (.ref o :: S) h Q := ax_aload_n mt33 dX4_leastFrom_15 rfl
theorem s33_16 (hT : gT h o = some (5, 4)) : aW d 33 16 L (.ref o :: S) h Q = (isRf (gR h o 0) = true ∧ aW d 33 19 L (gR h o 0 :: S) h Q) := ax_geta mt33 dX4_leastFrom_16 (by decide) ft_16406 fk_16406 hT
theorem s33_19 (hT : gT h o = some (8, 12)) : aW d 33 19 L (.ref o :: S) h Q = aW d 33 22 L (.int (gI h o 6) :: S) h Q := ax_geti mt33 dX4_leastFrom_19 (by decide) ft_16412 fk_16412 hT
theorem s33_22 : aW d 33 22 L (.int b :: .int a :: S) h Q = (if a < b then aW d 33 25 L S h Q else aW d 33 68 L S h Q) := ax_icmp_ge mt33 dX4_leastFrom_22 (by decide)
theorem s33_25 : aW d 33 25 [l0, l1, .int a, l3, l4, l5] S h Q = aW d 33 26 [l0, l1, .int a, l3, l4, l5] (.int a :: S) h Q := ax_iload_n mt33 dX4_leastFrom_25 rfl
theorem s33_26 : aW d 33 26 [l0, l1, l2, l3, l4, .int a] S h Q = aW d 33 28 [l0, l1, l2, l3, l4, .int a] (.int a :: S) h Q := ax_iload mt33 dX4_leastFrom_26 rfl
theorem s33_28 : aW d 33 28 L (.int b :: .int a :: S) h Q = aW d 33 29 L (.int (a >>> (b &&& 31)) :: S) h Q := ax_ishr mt33 dX4_leastFrom_28
theorem s33_29 : aW d 33 29 L S h Q = aW d 33 30 L (.int (nI 1) :: S) h Q := ax_iconst mt33 dX4_leastFrom_29 ic_1
theorem s33_30 : aW d 33 30 L (.int b :: .int a :: S) h Q = aW d 33 31 L (.int (a &&& b) :: S) h Q := ax_iand mt33 dX4_leastFrom_30
theorem s33_31 : aW d 33 31 L (.int a :: S) h Q = (if a = 0 then aW d 33 34 L S h Q else aW d 33 62 L S h Q) := ax_if_ne mt33 dX4_leastFrom_31 (by decide)
theorem s33_34 : aW d 33 34 [l0, .ref o, l2, l3, l4, l5] S h Q = aW d 33 35 [l0, .ref o, l2, l3, l4, l5] (.ref o :: S) h Q := ax_aload_n mt33 dX4_leastFrom_34 rfl
theorem s33_35 (hT : gT h o = some (5, 4)) : aW d 33 35 L (.ref o :: S) h Q = (isRf (gR h o 0) = true ∧ aW d 33 38 L (gR h o 0 :: S) h Q) := ax_geta mt33 dX4_leastFrom_35 (by decide) ft_16406 fk_16406 hT
theorem s33_38 : aW d 33 38 [l0, l1, l2, l3, l4, .int a] S h Q = aW d 33 40 [l0, l1, l2, l3, l4, .int a] (.int a :: S) h Q := ax_iload mt33 dX4_leastFrom_38 rfl
theorem s33_40 : aW d 33 40 [l0, l1, .int a, l3, l4, l5] S h Q = aW d 33 41 [l0, l1, .int a, l3, l4, l5] (.int a :: S) h Q := ax_iload_n mt33 dX4_leastFrom_40 rfl
theorem s33_41 (hT : gT h o = some (8, 12)) : aW (d + 1) 33 41 L (.int x1 :: .int x0 :: .ref o :: []) h Q = aM d 54 (.ref o :: [.int x0, .int x1]) h (fun v h1 => aW (d + 1) 33 44 L (ab_ps v []) h1 Q) := ax_invv mt33 dX4_leastFrom_41 (by decide) ct_16434 (.inl rfl) mt54 ⟨⟨Nat.le_of_ble_eq_true rfl, Nat.le_of_ble_eq_true rfl, Nat.le_of_ble_eq_true rfl⟩, rfl, rfl, rfl⟩ hT
theorem s33_44 : aW d 33 44 L (.int a :: S) h Q = (if a = 0 then aW d 33 62 L S h Q else aW d 33 47 L S h Q) := ax_if_eq mt33 dX4_leastFrom_44 (by decide)
theorem s33_47 : aW d 33 47 [l0, l1, l2, .int a, l4, l5] S h Q = aW d 33 48 [l0, l1, l2, .int a, l4, l5] (.int a :: S) h Q := ax_iload_n mt33 dX4_leastFrom_47 rfl
theorem s33_48 : aW d 33 48 [.ref o, l1, l2, l3, l4, l5] S h Q = aW d 33 49 [.ref o, l1, l2, l3, l4, l5] (.ref o :: S) h Q := ax_aload_n mt33 dX4_leastFrom_48 rfl
theorem s33_49 : aW d 33 49 [l0, .ref o, l2, l3, l4, l5] S h Q = aW d 33 50 [l0, .ref o, l2, l3, l4, l5] (.ref o :: S) h Q := ax_aload_n mt33 dX4_leastFrom_49 rfl
theorem s33_50 : aW d 33 50 [l0, l1, .int a, l3, l4, l5] S h Q = aW d 33 51 [l0, l1, .int a, l3, l4, l5] (.int a :: S) h Q := ax_iload_n mt33 dX4_leastFrom_50 rfl
theorem s33_51 : aW d 33 51 [l0, l1, l2, l3, l4, .int a] S h Q = aW d 33 53 [l0, l1, l2, l3, l4, .int a] (.int a :: S) h Q := ax_iload mt33 dX4_leastFrom_51 rfl
theorem s33_53 : aW d 33 53 [l0, l1, l2, l3, .int a, l5] S h Q = aW d 33 55 [l0, l1, l2, l3, .int a, l5] (.int a :: S) h Q := ax_iload mt33 dX4_leastFrom_53 rfl
theorem s33_55 (hT : gT h o = some (6, 4)) : aW (d + 1) 33 55 L (.int x3 :: .int x2 :: .int x1 :: .ref p0 :: .ref o :: [.int y0]) h Q = aM d 34 (.ref o :: [.ref p0, .int x1, .int x2, .int x3]) h (fun v h1 => aW (d + 1) 33 58 L (ab_ps v [.int y0]) h1 Q) := ax_invv mt33 dX4_leastFrom_55 (by decide) ct_16438 (.inl rfl) mt34 ⟨⟨Nat.le_of_ble_eq_true rfl, Nat.le_of_ble_eq_true rfl, Nat.le_of_ble_eq_true rfl⟩, rfl, rfl, rfl⟩ hT
theorem s33_58 : aW (d + 1) 33 58 L (.int b :: .int a :: []) h Q = aW (d + 1) 33 61 L (.int (iMin a b) :: []) h Q := ax_min mt33 dX4_leastFrom_58 (by decide) ct_16442 (Nat.le_of_ble_eq_true rfl)
theorem s33_61 : aW d 33 61 [l0, l1, l2, l3, l4, l5] (.int a :: S) h Q = aW d 33 62 [l0, l1, l2, .int a, l4, l5] S h Q := ax_istore_n mt33 dX4_leastFrom_61 (Nat.le_of_ble_eq_true rfl) rfl
theorem s33_62 : aW d 33 62 [l0, l1, l2, l3, l4, .int a] S h Q = aW d 33 65 [l0, l1, l2, l3, l4, .int (a + nI 1)] S h Q := ax_iinc mt33 dX4_leastFrom_62 rfl ic_1 rfl
theorem s33_65 : aW d 33 65 L S h Q = aW d 33 13 L S h Q := ax_goto mt33 dX4_leastFrom_65 (by decide)
theorem s33_68 : aW d 33 68 [l0, l1, l2, .int a, l4, l5] S h Q = aW d 33 69 [l0, l1, l2, .int a, l4, l5] (.int a :: S) h Q := ax_iload_n mt33 dX4_leastFrom_68 rfl
theorem s33_69 : aW d 33 69 L [.int a] h Q = Q (some (.int a)) h := ax_reti mt33 dX4_leastFrom_69 rfl
-- method 34: BufferRoom$Orders.peakThrough(LBufferRoom$Loads;III)I
theorem dX4_peakThrough_0 : decode cX4_peakThrough 0 = .ok (.aload_n 1, 1) := by decide +kernel
theorem dX4_peakThrough_1 : decode cX4_peakThrough 1 = .ok (.iload_n 2, 1) := by decide +kernel
theorem dX4_peakThrough_2 : decode cX4_peakThrough 2 = .ok (.iload_n 3, 1) := by decide +kernel
theorem dX4_peakThrough_3 : decode cX4_peakThrough 3 = .ok (.iload 4, 2) := by decide +kernel
theorem dX4_peakThrough_5 : decode cX4_peakThrough 5 = .ok (.invokevirtual 64, 3) := by decide +kernel
theorem dX4_peakThrough_8 : decode cX4_peakThrough 8 = .ok (.aload_n 0, 1) := by decide +kernel
theorem dX4_peakThrough_9 : decode cX4_peakThrough 9 = .ok (.getfield 9, 3) := by decide +kernel
theorem dX4_peakThrough_12 : decode cX4_peakThrough 12 = .ok (.iload_n 2, 1) := by decide +kernel
theorem dX4_peakThrough_13 : decode cX4_peakThrough 13 = .ok (.iconst 1, 1) := by decide +kernel
theorem dX4_peakThrough_14 : decode cX4_peakThrough 14 = .ok (.iload_n 3, 1) := by decide +kernel
theorem dX4_peakThrough_15 : decode cX4_peakThrough 15 = .ok (.ishl, 1) := by decide +kernel
theorem dX4_peakThrough_16 : decode cX4_peakThrough 16 = .ok (.ior, 1) := by decide +kernel
theorem dX4_peakThrough_17 : decode cX4_peakThrough 17 = .ok (.iaload, 1) := by decide +kernel
theorem dX4_peakThrough_18 : decode cX4_peakThrough 18 = .ok (.invokestatic 68, 3) := by decide +kernel
theorem dX4_peakThrough_21 : decode cX4_peakThrough 21 = .ok (.ireturn, 1) := by decide +kernel
theorem s34_0 : aW d 34 0 [l0, .ref o, l2, l3, l4] S h Q = aW d 34 1 [l0, .ref o, l2, l3, l4] (.ref o :: S) h Q := ax_aload_n mt34 dX4_peakThrough_0 rfl
theorem s34_1 : aW d 34 1 [l0, l1, .int a, l3, l4] S h Q = aW d 34 2 [l0, l1, .int a, l3, l4] (.int a :: S) h Q := ax_iload_n mt34 dX4_peakThrough_1 rfl
theorem s34_2 : aW d 34 2 [l0, l1, l2, .int a, l4] S h Q = aW d 34 3 [l0, l1, l2, .int a, l4] (.int a :: S) h Q := ax_iload_n mt34 dX4_peakThrough_2 rfl
theorem s34_3 : aW d 34 3 [l0, l1, l2, l3, .int a] S h Q = aW d 34 5 [l0, l1, l2, l3, .int a] (.int a :: S) h Q := ax_iload mt34 dX4_peakThrough_3 rfl
theorem s34_5 (hT : gT h o = some (5, 4)) : aW (d + 1) 34 5 L (.int x2 :: .int x1 :: .int x0 :: .ref o :: []) h Q = aM d 30 (.ref o :: [.int x0, .int x1, .int x2]) h (fun v h1 => aW (d + 1) 34 8 L (ab_ps v []) h1 Q) := ax_invv mt34 dX4_peakThrough_5 (by decide) ct_16448 (.inl rfl) mt30 ⟨⟨Nat.le_of_ble_eq_true rfl, Nat.le_of_ble_eq_true rfl, Nat.le_of_ble_eq_true rfl⟩, rfl, rfl, rfl⟩ hT
theorem s34_8 : aW d 34 8 [.ref o, l1, l2, l3, l4] S h Q = aW d 34 9 [.ref o, l1, l2, l3, l4] (.ref o :: S) h Q := ax_aload_n mt34 dX4_peakThrough_8 rfl
theorem s34_9 (hT : gT h o = some (6, 4)) : aW d 34 9 L (.ref o :: S) h Q = (isRf (gR h o 2) = true ∧ aW d 34 12 L (gR h o 2 :: S) h Q) := ax_geta mt34 dX4_peakThrough_9 (by decide) ft_16393 fk_16393 hT
theorem s34_12 : aW d 34 12 [l0, l1, .int a, l3, l4] S h Q = aW d 34 13 [l0, l1, .int a, l3, l4] (.int a :: S) h Q := ax_iload_n mt34 dX4_peakThrough_12 rfl
theorem s34_13 : aW d 34 13 L S h Q = aW d 34 14 L (.int (nI 1) :: S) h Q := ax_iconst mt34 dX4_peakThrough_13 ic_1
theorem s34_14 : aW d 34 14 [l0, l1, l2, .int a, l4] S h Q = aW d 34 15 [l0, l1, l2, .int a, l4] (.int a :: S) h Q := ax_iload_n mt34 dX4_peakThrough_14 rfl
theorem s34_15 : aW d 34 15 L (.int b :: .int a :: S) h Q = aW d 34 16 L (.int (a <<< (b &&& 31)) :: S) h Q := ax_ishl mt34 dX4_peakThrough_15
theorem s34_16 : aW d 34 16 L (.int b :: .int a :: S) h Q = aW d 34 17 L (.int (a ||| b) :: S) h Q := ax_ior mt34 dX4_peakThrough_16
theorem s34_17 : aW d 34 17 L (.int a :: .ref o :: S) h Q = (inb a (aI h o) ∧ aW d 34 18 L (.int (gI h o a.toNatClampNeg) :: S) h Q) := ax_iald mt34 dX4_peakThrough_17
theorem s34_18 : aW (d + 1) 34 18 L (.int b :: .int a :: []) h Q = aW (d + 1) 34 21 L (.int (iMax a b) :: []) h Q := ax_max mt34 dX4_peakThrough_18 (by decide) ct_16452 (Nat.le_of_ble_eq_true rfl)
theorem s34_21 : aW d 34 21 L [.int a] h Q = Q (some (.int a)) h := ax_reti mt34 dX4_peakThrough_21 rfl
-- method 35: BufferRoom$Orders.findRow(LBufferRoom$Loads;)V
theorem dX4_findRow_0 : decode cX4_findRow 0 = .ok (.iconst 0, 1) := by decide +kernel
theorem dX4_findRow_1 : decode cX4_findRow 1 = .ok (.istore_n 2, 1) := by decide +kernel
theorem dX4_findRow_2 : decode cX4_findRow 2 = .ok (.iconst 0, 1) := by decide +kernel
theorem dX4_findRow_3 : decode cX4_findRow 3 = .ok (.istore_n 3, 1) := by decide +kernel
theorem dX4_findRow_4 : decode cX4_findRow 4 = .ok (.iload_n 3, 1) := by decide +kernel
theorem dX4_findRow_5 : decode cX4_findRow 5 = .ok (.aload_n 1, 1) := by decide +kernel
theorem dX4_findRow_6 : decode cX4_findRow 6 = .ok (.getfield 22, 3) := by decide +kernel
theorem dX4_findRow_9 : decode cX4_findRow 9 = .ok (.getfield 28, 3) := by decide +kernel
theorem dX4_findRow_12 : decode cX4_findRow 12 = .ok (.if_icmp .ge 38, 3) := by decide +kernel
theorem dX4_findRow_15 : decode cX4_findRow 15 = .ok (.aload_n 0, 1) := by decide +kernel
theorem dX4_findRow_16 : decode cX4_findRow 16 = .ok (.aload_n 1, 1) := by decide +kernel
theorem dX4_findRow_17 : decode cX4_findRow 17 = .ok (.iload_n 2, 1) := by decide +kernel
theorem dX4_findRow_18 : decode cX4_findRow 18 = .ok (.invokevirtual 71, 3) := by decide +kernel
theorem dX4_findRow_21 : decode cX4_findRow 21 = .ok (.istore 4, 2) := by decide +kernel
theorem dX4_findRow_23 : decode cX4_findRow 23 = .ok (.iload 4, 2) := by decide +kernel
theorem dX4_findRow_25 : decode cX4_findRow 25 = .ok (.ifCond .ge 4, 3) := by decide +kernel
theorem dX4_findRow_28 : decode cX4_findRow 28 = .ok (.return_, 1) := by decide +kernel
theorem dX4_findRow_29 : decode cX4_findRow 29 = .ok (.aload_n 0, 1) := by decide +kernel
theorem dX4_findRow_30 : decode cX4_findRow 30 = .ok (.getfield 15, 3) := by decide +kernel
theorem dX4_findRow_33 : decode cX4_findRow 33 = .ok (.iload_n 3, 1) := by decide +kernel
theorem dX4_findRow_34 : decode cX4_findRow 34 = .ok (.iload 4, 2) := by decide +kernel
theorem dX4_findRow_36 : decode cX4_findRow 36 = .ok (.iastore, 1) := by decide +kernel
theorem dX4_findRow_37 : decode cX4_findRow 37 = .ok (.iload_n 2, 1) := by decide +kernel
theorem dX4_findRow_38 : decode cX4_findRow 38 = .ok (.iconst 1, 1) := by decide +kernel
theorem dX4_findRow_39 : decode cX4_findRow 39 = .ok (.iload 4, 2) := by decide +kernel
theorem dX4_findRow_41 : decode cX4_findRow 41 = .ok (.ishl, 1) := by decide +kernel
theorem dX4_findRow_42 : decode cX4_findRow 42 = .ok (.ior, 1) := by decide +kernel
theorem dX4_findRow_43 : decode cX4_findRow 43 = .ok (.istore_n 2, 1) := by decide +kernel
theorem dX4_findRow_44 : decode cX4_findRow 44 = .ok (.iinc 3 1, 3) := by decide +kernel
theorem dX4_findRow_47 : decode cX4_findRow 47 = .ok (.goto (-43), 3) := by decide +kernel
theorem dX4_findRow_50 : decode cX4_findRow 50 = .ok (.return_, 1) := by decide +kernel
theorem s35_0 : aW d 35 0 L S h Q = aW d 35 1 L (.int (nI 0) :: S) h Q := ax_iconst mt35 dX4_findRow_0 ic_0
theorem s35_1 : aW d 35 1 [l0, l1, l2, l3, l4] (.int a :: S) h Q = aW d 35 2 [l0, l1, .int a, l3, l4] S h Q := ax_istore_n mt35 dX4_findRow_1 (Nat.le_of_ble_eq_true rfl) rfl
theorem s35_2 : aW d 35 2 L S h Q = aW d 35 3 L (.int (nI 0) :: S) h Q := ax_iconst mt35 dX4_findRow_2 ic_0
theorem s35_3 : aW d 35 3 [l0, l1, l2, l3, l4] (.int a :: S) h Q = aW d 35 4 [l0, l1, l2, .int a, l4] S h Q := ax_istore_n mt35 dX4_findRow_3 (Nat.le_of_ble_eq_true rfl) rfl
theorem s35_4 : aW d 35 4 [l0, l1, l2, .int a, l4] S h Q = aW d 35 5 [l0, l1, l2, .int a, l4] (.int a :: S) h Q := ax_iload_n mt35 dX4_findRow_4 rfl
theorem s35_5 : aW d 35 5 [l0, .ref o, l2, l3, l4] S h Q = aW d 35 6 [l0, .ref o, l2, l3, l4] (.ref o :: S) h Q := ax_aload_n mt35 dX4_findRow_5 rfl
theorem s35_6 (hT : gT h o = some (5, 4)) : aW d 35 6 L (.ref o :: S) h Q = (isRf (gR h o 0) = true ∧ aW d 35 9 L (gR h o 0 :: S) h Q) := ax_geta mt35 dX4_findRow_6 (by decide) ft_16406 fk_16406 hT
theorem s35_9 (hT : gT h o = some (8, 12)) : aW d 35 9 L (.ref o :: S) h Q = aW d 35 12 L (.int (gI h o 6) :: S) h Q := ax_geti mt35 dX4_findRow_9 (by decide) ft_16412 fk_16412 hT
theorem s35_12 : aW d 35 12 L (.int b :: .int a :: S) h Q = (if a < b then aW d 35 15 L S h Q else aW d 35 50 L S h Q) := ax_icmp_ge mt35 dX4_findRow_12 (by decide)
theorem s35_15 : aW d 35 15 [.ref o, l1, l2, l3, l4] S h Q = aW d 35 16 [.ref o, l1, l2, l3, l4] (.ref o :: S) h Q := ax_aload_n mt35 dX4_findRow_15 rfl
theorem s35_16 : aW d 35 16 [l0, .ref o, l2, l3, l4] S h Q = aW d 35 17 [l0, .ref o, l2, l3, l4] (.ref o :: S) h Q := ax_aload_n mt35 dX4_findRow_16 rfl
theorem s35_17 : aW d 35 17 [l0, l1, .int a, l3, l4] S h Q = aW d 35 18 [l0, l1, .int a, l3, l4] (.int a :: S) h Q := ax_iload_n mt35 dX4_findRow_17 rfl
theorem s35_18 (hT : gT h o = some (6, 4)) : aW (d + 1) 35 18 L (.int x1 :: .ref p0 :: .ref o :: []) h Q = aM d 36 (.ref o :: [.ref p0, .int x1]) h (fun v h1 => aW (d + 1) 35 21 L (ab_ps v []) h1 Q) := ax_invv mt35 dX4_findRow_18 (by decide) ct_16455 (.inl rfl) mt36 ⟨⟨Nat.le_of_ble_eq_true rfl, Nat.le_of_ble_eq_true rfl, Nat.le_of_ble_eq_true rfl⟩, rfl, rfl, rfl⟩ hT
theorem s35_21 : aW d 35 21 [l0, l1, l2, l3, l4] (.int a :: S) h Q = aW d 35 23 [l0, l1, l2, l3, .int a] S h Q := ax_istore mt35 dX4_findRow_21 (Nat.le_of_ble_eq_true rfl) rfl
theorem s35_23 : aW d 35 23 [l0, l1, l2, l3, .int a] S h Q = aW d 35 25 [l0, l1, l2, l3, .int a] (.int a :: S) h Q := ax_iload mt35 dX4_findRow_23 rfl
theorem s35_25 : aW d 35 25 L (.int a :: S) h Q = (if a < 0 then aW d 35 28 L S h Q else aW d 35 29 L S h Q) := ax_if_ge mt35 dX4_findRow_25 (by decide)
theorem s35_28 : aW d 35 28 L [] h Q = Q none h := ax_retv mt35 dX4_findRow_28 rfl
theorem s35_29 : aW d 35 29 [.ref o, l1, l2, l3, l4] S h Q = aW d 35 30 [.ref o, l1, l2, l3, l4] (.ref o :: S) h Q := ax_aload_n mt35 dX4_findRow_29 rfl
theorem s35_30 (hT : gT h o = some (6, 4)) : aW d 35 30 L (.ref o :: S) h Q = (isRf (gR h o 3) = true ∧ aW d 35 33 L (gR h o 3 :: S) h Q) := ax_geta mt35 dX4_findRow_30 (by decide) ft_16399 fk_16399 hT
theorem s35_33 : aW d 35 33 [l0, l1, l2, .int a, l4] S h Q = aW d 35 34 [l0, l1, l2, .int a, l4] (.int a :: S) h Q := ax_iload_n mt35 dX4_findRow_33 rfl
theorem s35_34 : aW d 35 34 [l0, l1, l2, l3, .int a] S h Q = aW d 35 36 [l0, l1, l2, l3, .int a] (.int a :: S) h Q := ax_iload mt35 dX4_findRow_34 rfl
theorem s35_36 : aW d 35 36 L (.int b :: .int a :: .ref o :: S) h Q = (inb a (aJ h o) ∧ aW d 35 37 L S (pI h o a.toNatClampNeg b) Q) := ax_iast mt35 dX4_findRow_36
theorem s35_37 : aW d 35 37 [l0, l1, .int a, l3, l4] S h Q = aW d 35 38 [l0, l1, .int a, l3, l4] (.int a :: S) h Q := ax_iload_n mt35 dX4_findRow_37 rfl
theorem s35_38 : aW d 35 38 L S h Q = aW d 35 39 L (.int (nI 1) :: S) h Q := ax_iconst mt35 dX4_findRow_38 ic_1
theorem s35_39 : aW d 35 39 [l0, l1, l2, l3, .int a] S h Q = aW d 35 41 [l0, l1, l2, l3, .int a] (.int a :: S) h Q := ax_iload mt35 dX4_findRow_39 rfl
theorem s35_41 : aW d 35 41 L (.int b :: .int a :: S) h Q = aW d 35 42 L (.int (a <<< (b &&& 31)) :: S) h Q := ax_ishl mt35 dX4_findRow_41
theorem s35_42 : aW d 35 42 L (.int b :: .int a :: S) h Q = aW d 35 43 L (.int (a ||| b) :: S) h Q := ax_ior mt35 dX4_findRow_42
theorem s35_43 : aW d 35 43 [l0, l1, l2, l3, l4] (.int a :: S) h Q = aW d 35 44 [l0, l1, .int a, l3, l4] S h Q := ax_istore_n mt35 dX4_findRow_43 (Nat.le_of_ble_eq_true rfl) rfl
theorem s35_44 : aW d 35 44 [l0, l1, l2, .int a, l4] S h Q = aW d 35 47 [l0, l1, l2, .int (a + nI 1), l4] S h Q := ax_iinc mt35 dX4_findRow_44 rfl ic_1 rfl
theorem s35_47 : aW d 35 47 L S h Q = aW d 35 4 L S h Q := ax_goto mt35 dX4_findRow_47 (by decide)
theorem s35_50 : aW d 35 50 L [] h Q = Q none h := ax_retv mt35 dX4_findRow_50 rfl
-- method 36: BufferRoom$Orders.firstWithin(LBufferRoom$Loads;I)I
theorem dX4_firstWithin_0 : decode cX4_firstWithin 0 = .ok (.aload_n 1, 1) := by decide +kernel
theorem dX4_firstWithin_1 : decode cX4_firstWithin 1 = .ok (.iload_n 2, 1) := by decide +kernel
theorem dX4_firstWithin_2 : decode cX4_firstWithin 2 = .ok (.invokevirtual 46, 3) := by decide +kernel
theorem dX4_firstWithin_5 : decode cX4_firstWithin 5 = .ok (.istore_n 3, 1) := by decide +kernel
theorem dX4_firstWithin_6 : decode cX4_firstWithin 6 = .ok (.iconst 0, 1) := by decide +kernel
theorem dX4_firstWithin_7 : decode cX4_firstWithin 7 = .ok (.istore 4, 2) := by decide +kernel
theorem dX4_firstWithin_9 : decode cX4_firstWithin 9 = .ok (.iload 4, 2) := by decide +kernel
theorem dX4_firstWithin_11 : decode cX4_firstWithin 11 = .ok (.aload_n 1, 1) := by decide +kernel
theorem dX4_firstWithin_12 : decode cX4_firstWithin 12 = .ok (.getfield 22, 3) := by decide +kernel
theorem dX4_firstWithin_15 : decode cX4_firstWithin 15 = .ok (.getfield 28, 3) := by decide +kernel
theorem dX4_firstWithin_18 : decode cX4_firstWithin 18 = .ok (.if_icmp .ge 52, 3) := by decide +kernel
theorem dX4_firstWithin_21 : decode cX4_firstWithin 21 = .ok (.iload_n 2, 1) := by decide +kernel
theorem dX4_firstWithin_22 : decode cX4_firstWithin 22 = .ok (.iload 4, 2) := by decide +kernel
theorem dX4_firstWithin_24 : decode cX4_firstWithin 24 = .ok (.ishr, 1) := by decide +kernel
theorem dX4_firstWithin_25 : decode cX4_firstWithin 25 = .ok (.iconst 1, 1) := by decide +kernel
theorem dX4_firstWithin_26 : decode cX4_firstWithin 26 = .ok (.iand, 1) := by decide +kernel
theorem dX4_firstWithin_27 : decode cX4_firstWithin 27 = .ok (.ifCond .ne 37, 3) := by decide +kernel
theorem dX4_firstWithin_30 : decode cX4_firstWithin 30 = .ok (.aload_n 1, 1) := by decide +kernel
theorem dX4_firstWithin_31 : decode cX4_firstWithin 31 = .ok (.getfield 22, 3) := by decide +kernel
theorem dX4_firstWithin_34 : decode cX4_firstWithin 34 = .ok (.iload 4, 2) := by decide +kernel
theorem dX4_firstWithin_36 : decode cX4_firstWithin 36 = .ok (.iload_n 2, 1) := by decide +kernel
theorem dX4_firstWithin_37 : decode cX4_firstWithin 37 = .ok (.invokevirtual 50, 3) := by decide +kernel
theorem dX4_firstWithin_40 : decode cX4_firstWithin 40 = .ok (.ifCond .eq 24, 3) := by decide +kernel
theorem dX4_firstWithin_43 : decode cX4_firstWithin 43 = .ok (.aload_n 0, 1) := by decide +kernel
theorem dX4_firstWithin_44 : decode cX4_firstWithin 44 = .ok (.aload_n 1, 1) := by decide +kernel
theorem dX4_firstWithin_45 : decode cX4_firstWithin 45 = .ok (.iload_n 2, 1) := by decide +kernel
theorem dX4_firstWithin_46 : decode cX4_firstWithin 46 = .ok (.iload 4, 2) := by decide +kernel
theorem dX4_firstWithin_48 : decode cX4_firstWithin 48 = .ok (.iload_n 3, 1) := by decide +kernel
theorem dX4_firstWithin_49 : decode cX4_firstWithin 49 = .ok (.invokevirtual 54, 3) := by decide +kernel
theorem dX4_firstWithin_52 : decode cX4_firstWithin 52 = .ok (.aload_n 0, 1) := by decide +kernel
theorem dX4_firstWithin_53 : decode cX4_firstWithin 53 = .ok (.getfield 9, 3) := by decide +kernel
theorem dX4_firstWithin_56 : decode cX4_firstWithin 56 = .ok (.iconst 0, 1) := by decide +kernel
theorem dX4_firstWithin_57 : decode cX4_firstWithin 57 = .ok (.iaload, 1) := by decide +kernel
theorem dX4_firstWithin_58 : decode cX4_firstWithin 58 = .ok (.if_icmp .gt 6, 3) := by decide +kernel
theorem dX4_firstWithin_61 : decode cX4_firstWithin 61 = .ok (.iload 4, 2) := by decide +kernel
theorem dX4_firstWithin_63 : decode cX4_firstWithin 63 = .ok (.ireturn, 1) := by decide +kernel
theorem dX4_firstWithin_64 : decode cX4_firstWithin 64 = .ok (.iinc 4 1, 3) := by decide +kernel
theorem dX4_firstWithin_67 : decode cX4_firstWithin 67 = .ok (.goto (-58), 3) := by decide +kernel
theorem dX4_firstWithin_70 : decode cX4_firstWithin 70 = .ok (.iconst (-1), 1) := by decide +kernel
theorem dX4_firstWithin_71 : decode cX4_firstWithin 71 = .ok (.ireturn, 1) := by decide +kernel
theorem s36_0 : aW d 36 0 [l0, .ref o, l2, l3, l4] S h Q = aW d 36 1 [l0, .ref o, l2, l3, l4] (.ref o :: S) h Q := ax_aload_n mt36 dX4_firstWithin_0 rfl
theorem s36_1 : aW d 36 1 [l0, l1, .int a, l3, l4] S h Q = aW d 36 2 [l0, l1, .int a, l3, l4] (.int a :: S) h Q := ax_iload_n mt36 dX4_firstWithin_1 rfl
theorem s36_2 (hT : gT h o = some (5, 4)) : aW (d + 1) 36 2 L (.int x0 :: .ref o :: []) h Q = aM d 29 (.ref o :: [.int x0]) h (fun v h1 => aW (d + 1) 36 5 L (ab_ps v []) h1 Q) := ax_invv mt36 dX4_firstWithin_2 (by decide) ct_16430 (.inl rfl) mt29 ⟨⟨Nat.le_of_ble_eq_true rfl, Nat.le_of_ble_eq_true rfl, Nat.le_of_ble_eq_true rfl⟩, rfl, rfl, rfl⟩ hT
theorem s36_5 : aW d 36 5 [l0, l1, l2, l3, l4] (.int a :: S) h Q = aW d 36 6 [l0, l1, l2, .int a, l4] S h Q := ax_istore_n mt36 dX4_firstWithin_5 (Nat.le_of_ble_eq_true rfl) rfl
theorem s36_6 : aW d 36 6 L S h Q = aW d 36 7 L (.int (nI 0) :: S) h Q := ax_iconst mt36 dX4_firstWithin_6 ic_0
theorem s36_7 : aW d 36 7 [l0, l1, l2, l3, l4] (.int a :: S) h Q = aW d 36 9 [l0, l1, l2, l3, .int a] S h Q := ax_istore mt36 dX4_firstWithin_7 (Nat.le_of_ble_eq_true rfl) rfl
theorem s36_9 : aW d 36 9 [l0, l1, l2, l3, .int a] S h Q = aW d 36 11 [l0, l1, l2, l3, .int a] (.int a :: S) h Q := ax_iload mt36 dX4_firstWithin_9 rfl
theorem s36_11 : aW d 36 11 [l0, .ref o, l2, l3, l4] S h Q = aW d 36 12 [l0, .ref o, l2, l3, l4] (.ref o :: S) h Q := ax_aload_n mt36 dX4_firstWithin_11 rfl
theorem s36_12 (hT : gT h o = some (5, 4)) : aW d 36 12 L (.ref o :: S) h Q = (isRf (gR h o 0) = true ∧ aW d 36 15 L (gR h o 0 :: S) h Q) := ax_geta mt36 dX4_firstWithin_12 (by decide) ft_16406 fk_16406 hT
theorem s36_15 (hT : gT h o = some (8, 12)) : aW d 36 15 L (.ref o :: S) h Q = aW d 36 18 L (.int (gI h o 6) :: S) h Q := ax_geti mt36 dX4_firstWithin_15 (by decide) ft_16412 fk_16412 hT
theorem s36_18 : aW d 36 18 L (.int b :: .int a :: S) h Q = (if a < b then aW d 36 21 L S h Q else aW d 36 70 L S h Q) := ax_icmp_ge mt36 dX4_firstWithin_18 (by decide)
theorem s36_21 : aW d 36 21 [l0, l1, .int a, l3, l4] S h Q = aW d 36 22 [l0, l1, .int a, l3, l4] (.int a :: S) h Q := ax_iload_n mt36 dX4_firstWithin_21 rfl
theorem s36_22 : aW d 36 22 [l0, l1, l2, l3, .int a] S h Q = aW d 36 24 [l0, l1, l2, l3, .int a] (.int a :: S) h Q := ax_iload mt36 dX4_firstWithin_22 rfl
theorem s36_24 : aW d 36 24 L (.int b :: .int a :: S) h Q = aW d 36 25 L (.int (a >>> (b &&& 31)) :: S) h Q := ax_ishr mt36 dX4_firstWithin_24
theorem s36_25 : aW d 36 25 L S h Q = aW d 36 26 L (.int (nI 1) :: S) h Q := ax_iconst mt36 dX4_firstWithin_25 ic_1
theorem s36_26 : aW d 36 26 L (.int b :: .int a :: S) h Q = aW d 36 27 L (.int (a &&& b) :: S) h Q := ax_iand mt36 dX4_firstWithin_26
theorem s36_27 : aW d 36 27 L (.int a :: S) h Q = (if a = 0 then aW d 36 30 L S h Q else aW d 36 64 L S h Q) := ax_if_ne mt36 dX4_firstWithin_27 (by decide)
theorem s36_30 : aW d 36 30 [l0, .ref o, l2, l3, l4] S h Q = aW d 36 31 [l0, .ref o, l2, l3, l4] (.ref o :: S) h Q := ax_aload_n mt36 dX4_firstWithin_30 rfl
theorem s36_31 (hT : gT h o = some (5, 4)) : aW d 36 31 L (.ref o :: S) h Q = (isRf (gR h o 0) = true ∧ aW d 36 34 L (gR h o 0 :: S) h Q) := ax_geta mt36 dX4_firstWithin_31 (by decide) ft_16406 fk_16406 hT
theorem s36_34 : aW d 36 34 [l0, l1, l2, l3, .int a] S h Q = aW d 36 36 [l0, l1, l2, l3, .int a] (.int a :: S) h Q := ax_iload mt36 dX4_firstWithin_34 rfl
theorem s36_36 : aW d 36 36 [l0, l1, .int a, l3, l4] S h Q = aW d 36 37 [l0, l1, .int a, l3, l4] (.int a :: S) h Q := ax_iload_n mt36 dX4_firstWithin_36 rfl
theorem s36_37 (hT : gT h o = some (8, 12)) : aW (d + 1) 36 37 L (.int x1 :: .int x0 :: .ref o :: []) h Q = aM d 54 (.ref o :: [.int x0, .int x1]) h (fun v h1 => aW (d + 1) 36 40 L (ab_ps v []) h1 Q) := ax_invv mt36 dX4_firstWithin_37 (by decide) ct_16434 (.inl rfl) mt54 ⟨⟨Nat.le_of_ble_eq_true rfl, Nat.le_of_ble_eq_true rfl, Nat.le_of_ble_eq_true rfl⟩, rfl, rfl, rfl⟩ hT
theorem s36_40 : aW d 36 40 L (.int a :: S) h Q = (if a = 0 then aW d 36 64 L S h Q else aW d 36 43 L S h Q) := ax_if_eq mt36 dX4_firstWithin_40 (by decide)
theorem s36_43 : aW d 36 43 [.ref o, l1, l2, l3, l4] S h Q = aW d 36 44 [.ref o, l1, l2, l3, l4] (.ref o :: S) h Q := ax_aload_n mt36 dX4_firstWithin_43 rfl
theorem s36_44 : aW d 36 44 [l0, .ref o, l2, l3, l4] S h Q = aW d 36 45 [l0, .ref o, l2, l3, l4] (.ref o :: S) h Q := ax_aload_n mt36 dX4_firstWithin_44 rfl
theorem s36_45 : aW d 36 45 [l0, l1, .int a, l3, l4] S h Q = aW d 36 46 [l0, l1, .int a, l3, l4] (.int a :: S) h Q := ax_iload_n mt36 dX4_firstWithin_45 rfl
theorem s36_46 : aW d 36 46 [l0, l1, l2, l3, .int a] S h Q = aW d 36 48 [l0, l1, l2, l3, .int a] (.int a :: S) h Q := ax_iload mt36 dX4_firstWithin_46 rfl
theorem s36_48 : aW d 36 48 [l0, l1, l2, .int a, l4] S h Q = aW d 36 49 [l0, l1, l2, .int a, l4] (.int a :: S) h Q := ax_iload_n mt36 dX4_firstWithin_48 rfl
theorem s36_49 (hT : gT h o = some (6, 4)) : aW (d + 1) 36 49 L (.int x3 :: .int x2 :: .int x1 :: .ref p0 :: .ref o :: []) h Q = aM d 34 (.ref o :: [.ref p0, .int x1, .int x2, .int x3]) h (fun v h1 => aW (d + 1) 36 52 L (ab_ps v []) h1 Q) := ax_invv mt36 dX4_firstWithin_49 (by decide) ct_16438 (.inl rfl) mt34 ⟨⟨Nat.le_of_ble_eq_true rfl, Nat.le_of_ble_eq_true rfl, Nat.le_of_ble_eq_true rfl⟩, rfl, rfl, rfl⟩ hT
theorem s36_52 : aW d 36 52 [.ref o, l1, l2, l3, l4] S h Q = aW d 36 53 [.ref o, l1, l2, l3, l4] (.ref o :: S) h Q := ax_aload_n mt36 dX4_firstWithin_52 rfl
theorem s36_53 (hT : gT h o = some (6, 4)) : aW d 36 53 L (.ref o :: S) h Q = (isRf (gR h o 2) = true ∧ aW d 36 56 L (gR h o 2 :: S) h Q) := ax_geta mt36 dX4_firstWithin_53 (by decide) ft_16393 fk_16393 hT
theorem s36_56 : aW d 36 56 L S h Q = aW d 36 57 L (.int (nI 0) :: S) h Q := ax_iconst mt36 dX4_firstWithin_56 ic_0
theorem s36_57 : aW d 36 57 L (.int a :: .ref o :: S) h Q = (inb a (aI h o) ∧ aW d 36 58 L (.int (gI h o a.toNatClampNeg) :: S) h Q) := ax_iald mt36 dX4_firstWithin_57
theorem s36_58 : aW d 36 58 L (.int b :: .int a :: S) h Q = (if b < a then aW d 36 64 L S h Q else aW d 36 61 L S h Q) := ax_icmp_gt mt36 dX4_firstWithin_58 (by decide)
theorem s36_61 : aW d 36 61 [l0, l1, l2, l3, .int a] S h Q = aW d 36 63 [l0, l1, l2, l3, .int a] (.int a :: S) h Q := ax_iload mt36 dX4_firstWithin_61 rfl
theorem s36_63 : aW d 36 63 L [.int a] h Q = Q (some (.int a)) h := ax_reti mt36 dX4_firstWithin_63 rfl
theorem s36_64 : aW d 36 64 [l0, l1, l2, l3, .int a] S h Q = aW d 36 67 [l0, l1, l2, l3, .int (a + nI 1)] S h Q := ax_iinc mt36 dX4_firstWithin_64 rfl ic_1 rfl
theorem s36_67 : aW d 36 67 L S h Q = aW d 36 9 L S h Q := ax_goto mt36 dX4_firstWithin_67 (by decide)
theorem s36_70 : aW d 36 70 L S h Q = aW d 36 71 L (.int ((-1)) :: S) h Q := ax_iconst mt36 dX4_firstWithin_70 ic_m1
theorem s36_71 : aW d 36 71 L [.int a] h Q = Q (some (.int a)) h := ax_reti mt36 dX4_firstWithin_71 rfl
-- method 37: BufferRoom$Pairing.<init>()V
theorem dX5_init_0 : decode cX5_init 0 = .ok (.aload_n 0, 1) := by decide +kernel
theorem dX5_init_1 : decode cX5_init 1 = .ok (.invokespecial 3, 3) := by decide +kernel
theorem dX5_init_4 : decode cX5_init 4 = .ok (.aload_n 0, 1) := by decide +kernel
theorem dX5_init_5 : decode cX5_init 5 = .ok (.bipush 10, 2) := by decide +kernel
theorem dX5_init_7 : decode cX5_init 7 = .ok (.newarray .int, 2) := by decide +kernel
theorem dX5_init_9 : decode cX5_init 9 = .ok (.putfield 9, 3) := by decide +kernel
theorem dX5_init_12 : decode cX5_init 12 = .ok (.aload_n 0, 1) := by decide +kernel
theorem dX5_init_13 : decode cX5_init 13 = .ok (.bipush 10, 2) := by decide +kernel
theorem dX5_init_15 : decode cX5_init 15 = .ok (.newarray .int, 2) := by decide +kernel
theorem dX5_init_17 : decode cX5_init 17 = .ok (.putfield 15, 3) := by decide +kernel
theorem dX5_init_20 : decode cX5_init 20 = .ok (.return_, 1) := by decide +kernel
theorem s37_0 : aW d 37 0 [.ref o] S h Q = aW d 37 1 [.ref o] (.ref o :: S) h Q := ax_aload_n mt37 dX5_init_0 rfl
theorem s37_1 : aW (d + 1) 37 1 L (.ref o :: []) h Q = aW (d + 1) 37 4 L [] h Q := ax_obj mt37 dX5_init_1 (by decide) ct_20483 (Nat.le_of_ble_eq_true rfl)
theorem s37_4 : aW d 37 4 [.ref o] S h Q = aW d 37 5 [.ref o] (.ref o :: S) h Q := ax_aload_n mt37 dX5_init_4 rfl
theorem s37_5 : aW d 37 5 L S h Q = aW d 37 7 L (.int (nI 10) :: S) h Q := ax_bipush mt37 dX5_init_5 bp_10
theorem s37_7 (hn : ¬ a < 0 ∧ a.toNatClampNeg ≤ 100000) : aW d 37 7 L (.int a :: S) h Q = aW d 37 9 L (.ref h.1.length :: S) (nO h 0 a.toNatClampNeg) Q := ax_newi mt37 dX5_init_7 hn
theorem s37_9 (hT : gT h o = some (7, 3)) : aW d 37 9 L (.ref o2 :: .ref o :: S) h Q = aW d 37 12 L S (pR h o 1 (.ref o2)) Q := ax_puta mt37 dX5_init_9 (by decide) ft_20489 (fun q => q.2 ⟨rfl, rfl, rfl⟩) fp_20489 hT
theorem s37_12 : aW d 37 12 [.ref o] S h Q = aW d 37 13 [.ref o] (.ref o :: S) h Q := ax_aload_n mt37 dX5_init_12 rfl
theorem s37_13 : aW d 37 13 L S h Q = aW d 37 15 L (.int (nI 10) :: S) h Q := ax_bipush mt37 dX5_init_13 bp_10
theorem s37_15 (hn : ¬ a < 0 ∧ a.toNatClampNeg ≤ 100000) : aW d 37 15 L (.int a :: S) h Q = aW d 37 17 L (.ref h.1.length :: S) (nO h 0 a.toNatClampNeg) Q := ax_newi mt37 dX5_init_15 hn
theorem s37_17 (hT : gT h o = some (7, 3)) : aW d 37 17 L (.ref o2 :: .ref o :: S) h Q = aW d 37 20 L S (pR h o 2 (.ref o2)) Q := ax_puta mt37 dX5_init_17 (by decide) ft_20495 (fun q => q.2 ⟨rfl, rfl, rfl⟩) fp_20495 hT
theorem s37_20 : aW d 37 20 L [] h Q = Q none h := ax_retv mt37 dX5_init_20 rfl
-- method 38: BufferRoom$Pairing.spread(LBufferRoom$Timeline;)V
theorem dX5_spread_0 : decode cX5_spread 0 = .ok (.aload_n 0, 1) := by decide +kernel
theorem dX5_spread_1 : decode cX5_spread 1 = .ok (.aload_n 1, 1) := by decide +kernel
theorem dX5_spread_2 : decode cX5_spread 2 = .ok (.putfield 18, 3) := by decide +kernel
theorem dX5_spread_5 : decode cX5_spread 5 = .ok (.iconst 0, 1) := by decide +kernel
theorem dX5_spread_6 : decode cX5_spread 6 = .ok (.istore_n 2, 1) := by decide +kernel
theorem dX5_spread_7 : decode cX5_spread 7 = .ok (.iconst 0, 1) := by decide +kernel
theorem dX5_spread_8 : decode cX5_spread 8 = .ok (.istore_n 3, 1) := by decide +kernel
theorem dX5_spread_9 : decode cX5_spread 9 = .ok (.iload_n 3, 1) := by decide +kernel
theorem dX5_spread_10 : decode cX5_spread 10 = .ok (.aload_n 0, 1) := by decide +kernel
theorem dX5_spread_11 : decode cX5_spread 11 = .ok (.getfield 18, 3) := by decide +kernel
theorem dX5_spread_14 : decode cX5_spread 14 = .ok (.getfield 22, 3) := by decide +kernel
theorem dX5_spread_17 : decode cX5_spread 17 = .ok (.getfield 28, 3) := by decide +kernel
theorem dX5_spread_20 : decode cX5_spread 20 = .ok (.if_icmp .ge 51, 3) := by decide +kernel
theorem dX5_spread_23 : decode cX5_spread 23 = .ok (.aload_n 0, 1) := by decide +kernel
theorem dX5_spread_24 : decode cX5_spread 24 = .ok (.getfield 9, 3) := by decide +kernel
theorem dX5_spread_27 : decode cX5_spread 27 = .ok (.iload_n 3, 1) := by decide +kernel
theorem dX5_spread_28 : decode cX5_spread 28 = .ok (.iload_n 2, 1) := by decide +kernel
theorem dX5_spread_29 : decode cX5_spread 29 = .ok (.iastore, 1) := by decide +kernel
theorem dX5_spread_30 : decode cX5_spread 30 = .ok (.sipush 400, 3) := by decide +kernel
theorem dX5_spread_33 : decode cX5_spread 33 = .ok (.iload_n 2, 1) := by decide +kernel
theorem dX5_spread_34 : decode cX5_spread 34 = .ok (.aload_n 0, 1) := by decide +kernel
theorem dX5_spread_35 : decode cX5_spread 35 = .ok (.getfield 18, 3) := by decide +kernel
theorem dX5_spread_38 : decode cX5_spread 38 = .ok (.getfield 22, 3) := by decide +kernel
theorem dX5_spread_41 : decode cX5_spread 41 = .ok (.aload_n 0, 1) := by decide +kernel
theorem dX5_spread_42 : decode cX5_spread 42 = .ok (.getfield 18, 3) := by decide +kernel
theorem dX5_spread_45 : decode cX5_spread 45 = .ok (.getfield 34, 3) := by decide +kernel
theorem dX5_spread_48 : decode cX5_spread 48 = .ok (.iload_n 3, 1) := by decide +kernel
theorem dX5_spread_49 : decode cX5_spread 49 = .ok (.iaload, 1) := by decide +kernel
theorem dX5_spread_50 : decode cX5_spread 50 = .ok (.invokevirtual 37, 3) := by decide +kernel
theorem dX5_spread_53 : decode cX5_spread 53 = .ok (.iadd, 1) := by decide +kernel
theorem dX5_spread_54 : decode cX5_spread 54 = .ok (.invokestatic 41, 3) := by decide +kernel
theorem dX5_spread_57 : decode cX5_spread 57 = .ok (.istore_n 2, 1) := by decide +kernel
theorem dX5_spread_58 : decode cX5_spread 58 = .ok (.aload_n 0, 1) := by decide +kernel
theorem dX5_spread_59 : decode cX5_spread 59 = .ok (.getfield 15, 3) := by decide +kernel
theorem dX5_spread_62 : decode cX5_spread 62 = .ok (.iload_n 3, 1) := by decide +kernel
theorem dX5_spread_63 : decode cX5_spread 63 = .ok (.iload_n 2, 1) := by decide +kernel
theorem dX5_spread_64 : decode cX5_spread 64 = .ok (.iastore, 1) := by decide +kernel
theorem dX5_spread_65 : decode cX5_spread 65 = .ok (.iinc 3 1, 3) := by decide +kernel
theorem dX5_spread_68 : decode cX5_spread 68 = .ok (.goto (-59), 3) := by decide +kernel
theorem dX5_spread_71 : decode cX5_spread 71 = .ok (.return_, 1) := by decide +kernel
theorem s38_0 : aW d 38 0 [.ref o, l1, l2, l3] S h Q = aW d 38 1 [.ref o, l1, l2, l3] (.ref o :: S) h Q := ax_aload_n mt38 dX5_spread_0 rfl
theorem s38_1 : aW d 38 1 [l0, .ref o, l2, l3] S h Q = aW d 38 2 [l0, .ref o, l2, l3] (.ref o :: S) h Q := ax_aload_n mt38 dX5_spread_1 rfl
theorem s38_2 (hT : gT h o = some (7, 3)) : aW d 38 2 L (.ref o2 :: .ref o :: S) h Q = aW d 38 5 L S (pR h o 0 (.ref o2)) Q := ax_puta mt38 dX5_spread_2 (by decide) ft_20498 (fun q => fn_20498 q.1) fp_20498 hT
theorem s38_5 : aW d 38 5 L S h Q = aW d 38 6 L (.int (nI 0) :: S) h Q := ax_iconst mt38 dX5_spread_5 ic_0
theorem s38_6 : aW d 38 6 [l0, l1, l2, l3] (.int a :: S) h Q = aW d 38 7 [l0, l1, .int a, l3] S h Q := ax_istore_n mt38 dX5_spread_6 (Nat.le_of_ble_eq_true rfl) rfl
theorem s38_7 : aW d 38 7 L S h Q = aW d 38 8 L (.int (nI 0) :: S) h Q := ax_iconst mt38 dX5_spread_7 ic_0
theorem s38_8 : aW d 38 8 [l0, l1, l2, l3] (.int a :: S) h Q = aW d 38 9 [l0, l1, l2, .int a] S h Q := ax_istore_n mt38 dX5_spread_8 (Nat.le_of_ble_eq_true rfl) rfl
theorem s38_9 : aW d 38 9 [l0, l1, l2, .int a] S h Q = aW d 38 10 [l0, l1, l2, .int a] (.int a :: S) h Q := ax_iload_n mt38 dX5_spread_9 rfl
theorem s38_10 : aW d 38 10 [.ref o, l1, l2, l3] S h Q = aW d 38 11 [.ref o, l1, l2, l3] (.ref o :: S) h Q := ax_aload_n mt38 dX5_spread_10 rfl
theorem s38_11 (hT : gT h o = some (7, 3)) : aW d 38 11 L (.ref o :: S) h Q = (isRf (gR h o 0) = true ∧ aW d 38 14 L (gR h o 0 :: S) h Q) := ax_geta mt38 dX5_spread_11 (by decide) ft_20498 fk_20498 hT
theorem s38_14 (hT : gT h o = some (12, 9)) : aW d 38 14 L (.ref o :: S) h Q = (isRf (gR h o 1) = true ∧ aW d 38 17 L (gR h o 1 :: S) h Q) := ax_geta mt38 dX5_spread_14 (by decide) ft_20502 fk_20502 hT
theorem s38_17 (hT : gT h o = some (8, 12)) : aW d 38 17 L (.ref o :: S) h Q = aW d 38 20 L (.int (gI h o 6) :: S) h Q := ax_geti mt38 dX5_spread_17 (by decide) ft_20508 fk_20508 hT
theorem s38_20 : aW d 38 20 L (.int b :: .int a :: S) h Q = (if a < b then aW d 38 23 L S h Q else aW d 38 71 L S h Q) := ax_icmp_ge mt38 dX5_spread_20 (by decide)
theorem s38_23 : aW d 38 23 [.ref o, l1, l2, l3] S h Q = aW d 38 24 [.ref o, l1, l2, l3] (.ref o :: S) h Q := ax_aload_n mt38 dX5_spread_23 rfl
theorem s38_24 (hT : gT h o = some (7, 3)) : aW d 38 24 L (.ref o :: S) h Q = (isRf (gR h o 1) = true ∧ aW d 38 27 L (gR h o 1 :: S) h Q) := ax_geta mt38 dX5_spread_24 (by decide) ft_20489 fk_20489 hT
theorem s38_27 : aW d 38 27 [l0, l1, l2, .int a] S h Q = aW d 38 28 [l0, l1, l2, .int a] (.int a :: S) h Q := ax_iload_n mt38 dX5_spread_27 rfl
theorem s38_28 : aW d 38 28 [l0, l1, .int a, l3] S h Q = aW d 38 29 [l0, l1, .int a, l3] (.int a :: S) h Q := ax_iload_n mt38 dX5_spread_28 rfl
theorem s38_29 : aW d 38 29 L (.int b :: .int a :: .ref o :: S) h Q = (inb a (aJ h o) ∧ aW d 38 30 L S (pI h o a.toNatClampNeg b) Q) := ax_iast mt38 dX5_spread_29
theorem s38_30 : aW d 38 30 L S h Q = aW d 38 33 L (.int (nI 400) :: S) h Q := ax_sipush mt38 dX5_spread_30 sp_400
theorem s38_33 : aW d 38 33 [l0, l1, .int a, l3] S h Q = aW d 38 34 [l0, l1, .int a, l3] (.int a :: S) h Q := ax_iload_n mt38 dX5_spread_33 rfl
theorem s38_34 : aW d 38 34 [.ref o, l1, l2, l3] S h Q = aW d 38 35 [.ref o, l1, l2, l3] (.ref o :: S) h Q := ax_aload_n mt38 dX5_spread_34 rfl
theorem s38_35 (hT : gT h o = some (7, 3)) : aW d 38 35 L (.ref o :: S) h Q = (isRf (gR h o 0) = true ∧ aW d 38 38 L (gR h o 0 :: S) h Q) := ax_geta mt38 dX5_spread_35 (by decide) ft_20498 fk_20498 hT
theorem s38_38 (hT : gT h o = some (12, 9)) : aW d 38 38 L (.ref o :: S) h Q = (isRf (gR h o 1) = true ∧ aW d 38 41 L (gR h o 1 :: S) h Q) := ax_geta mt38 dX5_spread_38 (by decide) ft_20502 fk_20502 hT
theorem s38_41 : aW d 38 41 [.ref o, l1, l2, l3] S h Q = aW d 38 42 [.ref o, l1, l2, l3] (.ref o :: S) h Q := ax_aload_n mt38 dX5_spread_41 rfl
theorem s38_42 (hT : gT h o = some (7, 3)) : aW d 38 42 L (.ref o :: S) h Q = (isRf (gR h o 0) = true ∧ aW d 38 45 L (gR h o 0 :: S) h Q) := ax_geta mt38 dX5_spread_42 (by decide) ft_20498 fk_20498 hT
theorem s38_45 (hT : gT h o = some (12, 9)) : aW d 38 45 L (.ref o :: S) h Q = (isRf (gR h o 4) = true ∧ aW d 38 48 L (gR h o 4 :: S) h Q) := ax_geta mt38 dX5_spread_45 (by decide) ft_20514 fk_20514 hT
theorem s38_48 : aW d 38 48 [l0, l1, l2, .int a] S h Q = aW d 38 49 [l0, l1, l2, .int a] (.int a :: S) h Q := ax_iload_n mt38 dX5_spread_48 rfl
theorem s38_49 : aW d 38 49 L (.int a :: .ref o :: S) h Q = (inb a (aI h o) ∧ aW d 38 50 L (.int (gI h o a.toNatClampNeg) :: S) h Q) := ax_iald mt38 dX5_spread_49
theorem s38_50 (hT : gT h o = some (8, 12)) : aW (d + 1) 38 50 L (.int x0 :: .ref o :: [.int y0, .int y1]) h Q = aM d 52 (.ref o :: [.int x0]) h (fun v h1 => aW (d + 1) 38 53 L (ab_ps v [.int y0, .int y1]) h1 Q) := ax_invv mt38 dX5_spread_50 (by decide) ct_20517 (.inl rfl) mt52 ⟨⟨Nat.le_of_ble_eq_true rfl, Nat.le_of_ble_eq_true rfl, Nat.le_of_ble_eq_true rfl⟩, rfl, rfl, rfl⟩ hT
theorem s38_53 : aW d 38 53 L (.int b :: .int a :: S) h Q = aW d 38 54 L (.int (a + b) :: S) h Q := ax_iadd mt38 dX5_spread_53
theorem s38_54 : aW (d + 1) 38 54 L (.int b :: .int a :: []) h Q = aW (d + 1) 38 57 L (.int (iMin a b) :: []) h Q := ax_min mt38 dX5_spread_54 (by decide) ct_20521 (Nat.le_of_ble_eq_true rfl)
theorem s38_57 : aW d 38 57 [l0, l1, l2, l3] (.int a :: S) h Q = aW d 38 58 [l0, l1, .int a, l3] S h Q := ax_istore_n mt38 dX5_spread_57 (Nat.le_of_ble_eq_true rfl) rfl
theorem s38_58 : aW d 38 58 [.ref o, l1, l2, l3] S h Q = aW d 38 59 [.ref o, l1, l2, l3] (.ref o :: S) h Q := ax_aload_n mt38 dX5_spread_58 rfl
theorem s38_59 (hT : gT h o = some (7, 3)) : aW d 38 59 L (.ref o :: S) h Q = (isRf (gR h o 2) = true ∧ aW d 38 62 L (gR h o 2 :: S) h Q) := ax_geta mt38 dX5_spread_59 (by decide) ft_20495 fk_20495 hT
theorem s38_62 : aW d 38 62 [l0, l1, l2, .int a] S h Q = aW d 38 63 [l0, l1, l2, .int a] (.int a :: S) h Q := ax_iload_n mt38 dX5_spread_62 rfl
theorem s38_63 : aW d 38 63 [l0, l1, .int a, l3] S h Q = aW d 38 64 [l0, l1, .int a, l3] (.int a :: S) h Q := ax_iload_n mt38 dX5_spread_63 rfl
theorem s38_64 : aW d 38 64 L (.int b :: .int a :: .ref o :: S) h Q = (inb a (aJ h o) ∧ aW d 38 65 L S (pI h o a.toNatClampNeg b) Q) := ax_iast mt38 dX5_spread_64
theorem s38_65 : aW d 38 65 [l0, l1, l2, .int a] S h Q = aW d 38 68 [l0, l1, l2, .int (a + nI 1)] S h Q := ax_iinc mt38 dX5_spread_65 rfl ic_1 rfl
theorem s38_68 : aW d 38 68 L S h Q = aW d 38 9 L S h Q := ax_goto mt38 dX5_spread_68 (by decide)
theorem s38_71 : aW d 38 71 L [] h Q = Q none h := ax_retv mt38 dX5_spread_71 rfl
-- method 39: BufferRoom$Pairing.together(I)I
theorem dX5_together_0 : decode cX5_together 0 = .ok (.iconst 0, 1) := by decide +kernel
theorem dX5_together_1 : decode cX5_together 1 = .ok (.istore_n 2, 1) := by decide +kernel
theorem dX5_together_2 : decode cX5_together 2 = .ok (.iconst 0, 1) := by decide +kernel
theorem dX5_together_3 : decode cX5_together 3 = .ok (.istore_n 3, 1) := by decide +kernel
theorem dX5_together_4 : decode cX5_together 4 = .ok (.iload_n 3, 1) := by decide +kernel
theorem dX5_together_5 : decode cX5_together 5 = .ok (.aload_n 0, 1) := by decide +kernel
theorem dX5_together_6 : decode cX5_together 6 = .ok (.getfield 18, 3) := by decide +kernel
theorem dX5_together_9 : decode cX5_together 9 = .ok (.getfield 22, 3) := by decide +kernel
theorem dX5_together_12 : decode cX5_together 12 = .ok (.getfield 28, 3) := by decide +kernel
theorem dX5_together_15 : decode cX5_together 15 = .ok (.if_icmp .ge 45, 3) := by decide +kernel
theorem dX5_together_18 : decode cX5_together 18 = .ok (.aload_n 0, 1) := by decide +kernel
theorem dX5_together_19 : decode cX5_together 19 = .ok (.getfield 9, 3) := by decide +kernel
theorem dX5_together_22 : decode cX5_together 22 = .ok (.iload_n 3, 1) := by decide +kernel
theorem dX5_together_23 : decode cX5_together 23 = .ok (.iaload, 1) := by decide +kernel
theorem dX5_together_24 : decode cX5_together 24 = .ok (.aload_n 0, 1) := by decide +kernel
theorem dX5_together_25 : decode cX5_together 25 = .ok (.getfield 15, 3) := by decide +kernel
theorem dX5_together_28 : decode cX5_together 28 = .ok (.iload_n 3, 1) := by decide +kernel
theorem dX5_together_29 : decode cX5_together 29 = .ok (.iaload, 1) := by decide +kernel
theorem dX5_together_30 : decode cX5_together 30 = .ok (.if_icmp .ge 24, 3) := by decide +kernel
theorem dX5_together_33 : decode cX5_together 33 = .ok (.iload_n 2, 1) := by decide +kernel
theorem dX5_together_34 : decode cX5_together 34 = .ok (.aload_n 0, 1) := by decide +kernel
theorem dX5_together_35 : decode cX5_together 35 = .ok (.getfield 18, 3) := by decide +kernel
theorem dX5_together_38 : decode cX5_together 38 = .ok (.getfield 47, 3) := by decide +kernel
theorem dX5_together_41 : decode cX5_together 41 = .ok (.iload_n 3, 1) := by decide +kernel
theorem dX5_together_42 : decode cX5_together 42 = .ok (.iaload, 1) := by decide +kernel
theorem dX5_together_43 : decode cX5_together 43 = .ok (.aload_n 0, 1) := by decide +kernel
theorem dX5_together_44 : decode cX5_together 44 = .ok (.iload_n 3, 1) := by decide +kernel
theorem dX5_together_45 : decode cX5_together 45 = .ok (.iload_n 1, 1) := by decide +kernel
theorem dX5_together_46 : decode cX5_together 46 = .ok (.invokevirtual 50, 3) := by decide +kernel
theorem dX5_together_49 : decode cX5_together 49 = .ok (.iadd, 1) := by decide +kernel
theorem dX5_together_50 : decode cX5_together 50 = .ok (.invokestatic 53, 3) := by decide +kernel
theorem dX5_together_53 : decode cX5_together 53 = .ok (.istore_n 2, 1) := by decide +kernel
theorem dX5_together_54 : decode cX5_together 54 = .ok (.iinc 3 1, 3) := by decide +kernel
theorem dX5_together_57 : decode cX5_together 57 = .ok (.goto (-53), 3) := by decide +kernel
theorem dX5_together_60 : decode cX5_together 60 = .ok (.iload_n 2, 1) := by decide +kernel
theorem dX5_together_61 : decode cX5_together 61 = .ok (.ireturn, 1) := by decide +kernel
theorem s39_0 : aW d 39 0 L S h Q = aW d 39 1 L (.int (nI 0) :: S) h Q := ax_iconst mt39 dX5_together_0 ic_0
theorem s39_1 : aW d 39 1 [l0, l1, l2, l3] (.int a :: S) h Q = aW d 39 2 [l0, l1, .int a, l3] S h Q := ax_istore_n mt39 dX5_together_1 (Nat.le_of_ble_eq_true rfl) rfl
theorem s39_2 : aW d 39 2 L S h Q = aW d 39 3 L (.int (nI 0) :: S) h Q := ax_iconst mt39 dX5_together_2 ic_0
theorem s39_3 : aW d 39 3 [l0, l1, l2, l3] (.int a :: S) h Q = aW d 39 4 [l0, l1, l2, .int a] S h Q := ax_istore_n mt39 dX5_together_3 (Nat.le_of_ble_eq_true rfl) rfl
theorem s39_4 : aW d 39 4 [l0, l1, l2, .int a] S h Q = aW d 39 5 [l0, l1, l2, .int a] (.int a :: S) h Q := ax_iload_n mt39 dX5_together_4 rfl
theorem s39_5 : aW d 39 5 [.ref o, l1, l2, l3] S h Q = aW d 39 6 [.ref o, l1, l2, l3] (.ref o :: S) h Q := ax_aload_n mt39 dX5_together_5 rfl
theorem s39_6 (hT : gT h o = some (7, 3)) : aW d 39 6 L (.ref o :: S) h Q = (isRf (gR h o 0) = true ∧ aW d 39 9 L (gR h o 0 :: S) h Q) := ax_geta mt39 dX5_together_6 (by decide) ft_20498 fk_20498 hT
theorem s39_9 (hT : gT h o = some (12, 9)) : aW d 39 9 L (.ref o :: S) h Q = (isRf (gR h o 1) = true ∧ aW d 39 12 L (gR h o 1 :: S) h Q) := ax_geta mt39 dX5_together_9 (by decide) ft_20502 fk_20502 hT
theorem s39_12 (hT : gT h o = some (8, 12)) : aW d 39 12 L (.ref o :: S) h Q = aW d 39 15 L (.int (gI h o 6) :: S) h Q := ax_geti mt39 dX5_together_12 (by decide) ft_20508 fk_20508 hT
theorem s39_15 : aW d 39 15 L (.int b :: .int a :: S) h Q = (if a < b then aW d 39 18 L S h Q else aW d 39 60 L S h Q) := ax_icmp_ge mt39 dX5_together_15 (by decide)
theorem s39_18 : aW d 39 18 [.ref o, l1, l2, l3] S h Q = aW d 39 19 [.ref o, l1, l2, l3] (.ref o :: S) h Q := ax_aload_n mt39 dX5_together_18 rfl
theorem s39_19 (hT : gT h o = some (7, 3)) : aW d 39 19 L (.ref o :: S) h Q = (isRf (gR h o 1) = true ∧ aW d 39 22 L (gR h o 1 :: S) h Q) := ax_geta mt39 dX5_together_19 (by decide) ft_20489 fk_20489 hT
theorem s39_22 : aW d 39 22 [l0, l1, l2, .int a] S h Q = aW d 39 23 [l0, l1, l2, .int a] (.int a :: S) h Q := ax_iload_n mt39 dX5_together_22 rfl
theorem s39_23 : aW d 39 23 L (.int a :: .ref o :: S) h Q = (inb a (aI h o) ∧ aW d 39 24 L (.int (gI h o a.toNatClampNeg) :: S) h Q) := ax_iald mt39 dX5_together_23
theorem s39_24 : aW d 39 24 [.ref o, l1, l2, l3] S h Q = aW d 39 25 [.ref o, l1, l2, l3] (.ref o :: S) h Q := ax_aload_n mt39 dX5_together_24 rfl
theorem s39_25 (hT : gT h o = some (7, 3)) : aW d 39 25 L (.ref o :: S) h Q = (isRf (gR h o 2) = true ∧ aW d 39 28 L (gR h o 2 :: S) h Q) := ax_geta mt39 dX5_together_25 (by decide) ft_20495 fk_20495 hT
theorem s39_28 : aW d 39 28 [l0, l1, l2, .int a] S h Q = aW d 39 29 [l0, l1, l2, .int a] (.int a :: S) h Q := ax_iload_n mt39 dX5_together_28 rfl
theorem s39_29 : aW d 39 29 L (.int a :: .ref o :: S) h Q = (inb a (aI h o) ∧ aW d 39 30 L (.int (gI h o a.toNatClampNeg) :: S) h Q) := ax_iald mt39 dX5_together_29
theorem s39_30 : aW d 39 30 L (.int b :: .int a :: S) h Q = (if a < b then aW d 39 33 L S h Q else aW d 39 54 L S h Q) := ax_icmp_ge mt39 dX5_together_30 (by decide)
theorem s39_33 : aW d 39 33 [l0, l1, .int a, l3] S h Q = aW d 39 34 [l0, l1, .int a, l3] (.int a :: S) h Q := ax_iload_n mt39 dX5_together_33 rfl
theorem s39_34 : aW d 39 34 [.ref o, l1, l2, l3] S h Q = aW d 39 35 [.ref o, l1, l2, l3] (.ref o :: S) h Q := ax_aload_n mt39 dX5_together_34 rfl
theorem s39_35 (hT : gT h o = some (7, 3)) : aW d 39 35 L (.ref o :: S) h Q = (isRf (gR h o 0) = true ∧ aW d 39 38 L (gR h o 0 :: S) h Q) := ax_geta mt39 dX5_together_35 (by decide) ft_20498 fk_20498 hT
theorem s39_38 (hT : gT h o = some (12, 9)) : aW d 39 38 L (.ref o :: S) h Q = (isRf (gR h o 6) = true ∧ aW d 39 41 L (gR h o 6 :: S) h Q) := ax_geta mt39 dX5_together_38 (by decide) ft_20527 fk_20527 hT
theorem s39_41 : aW d 39 41 [l0, l1, l2, .int a] S h Q = aW d 39 42 [l0, l1, l2, .int a] (.int a :: S) h Q := ax_iload_n mt39 dX5_together_41 rfl
theorem s39_42 : aW d 39 42 L (.int a :: .ref o :: S) h Q = (inb a (aI h o) ∧ aW d 39 43 L (.int (gI h o a.toNatClampNeg) :: S) h Q) := ax_iald mt39 dX5_together_42
theorem s39_43 : aW d 39 43 [.ref o, l1, l2, l3] S h Q = aW d 39 44 [.ref o, l1, l2, l3] (.ref o :: S) h Q := ax_aload_n mt39 dX5_together_43 rfl
theorem s39_44 : aW d 39 44 [l0, l1, l2, .int a] S h Q = aW d 39 45 [l0, l1, l2, .int a] (.int a :: S) h Q := ax_iload_n mt39 dX5_together_44 rfl
theorem s39_45 : aW d 39 45 [l0, .int a, l2, l3] S h Q = aW d 39 46 [l0, .int a, l2, l3] (.int a :: S) h Q := ax_iload_n mt39 dX5_together_45 rfl
theorem s39_46 (hT : gT h o = some (7, 3)) : aW (d + 1) 39 46 L (.int x1 :: .int x0 :: .ref o :: [.int y0, .int y1]) h Q = aM d 40 (.ref o :: [.int x0, .int x1]) h (fun v h1 => aW (d + 1) 39 49 L (ab_ps v [.int y0, .int y1]) h1 Q) := ax_invv mt39 dX5_together_46 (by decide) ct_20530 (.inl rfl) mt40 ⟨⟨Nat.le_of_ble_eq_true rfl, Nat.le_of_ble_eq_true rfl, Nat.le_of_ble_eq_true rfl⟩, rfl, rfl, rfl⟩ hT
theorem s39_49 : aW d 39 49 L (.int b :: .int a :: S) h Q = aW d 39 50 L (.int (a + b) :: S) h Q := ax_iadd mt39 dX5_together_49
theorem s39_50 : aW (d + 1) 39 50 L (.int b :: .int a :: []) h Q = aW (d + 1) 39 53 L (.int (iMax a b) :: []) h Q := ax_max mt39 dX5_together_50 (by decide) ct_20533 (Nat.le_of_ble_eq_true rfl)
theorem s39_53 : aW d 39 53 [l0, l1, l2, l3] (.int a :: S) h Q = aW d 39 54 [l0, l1, .int a, l3] S h Q := ax_istore_n mt39 dX5_together_53 (Nat.le_of_ble_eq_true rfl) rfl
theorem s39_54 : aW d 39 54 [l0, l1, l2, .int a] S h Q = aW d 39 57 [l0, l1, l2, .int (a + nI 1)] S h Q := ax_iinc mt39 dX5_together_54 rfl ic_1 rfl
theorem s39_57 : aW d 39 57 L S h Q = aW d 39 4 L S h Q := ax_goto mt39 dX5_together_57 (by decide)
theorem s39_60 : aW d 39 60 [l0, l1, .int a, l3] S h Q = aW d 39 61 [l0, l1, .int a, l3] (.int a :: S) h Q := ax_iload_n mt39 dX5_together_60 rfl
theorem s39_61 : aW d 39 61 L [.int a] h Q = Q (some (.int a)) h := ax_reti mt39 dX5_together_61 rfl
-- method 40: BufferRoom$Pairing.mostBehind(II)I
theorem dX5_mostBehind_0 : decode cX5_mostBehind 0 = .ok (.iconst 0, 1) := by decide +kernel
theorem dX5_mostBehind_1 : decode cX5_mostBehind 1 = .ok (.istore_n 3, 1) := by decide +kernel
theorem dX5_mostBehind_2 : decode cX5_mostBehind 2 = .ok (.iconst 0, 1) := by decide +kernel
theorem dX5_mostBehind_3 : decode cX5_mostBehind 3 = .ok (.istore 4, 2) := by decide +kernel
theorem dX5_mostBehind_5 : decode cX5_mostBehind 5 = .ok (.iload 4, 2) := by decide +kernel
theorem dX5_mostBehind_7 : decode cX5_mostBehind 7 = .ok (.aload_n 0, 1) := by decide +kernel
theorem dX5_mostBehind_8 : decode cX5_mostBehind 8 = .ok (.getfield 18, 3) := by decide +kernel
theorem dX5_mostBehind_11 : decode cX5_mostBehind 11 = .ok (.getfield 22, 3) := by decide +kernel
theorem dX5_mostBehind_14 : decode cX5_mostBehind 14 = .ok (.getfield 28, 3) := by decide +kernel
theorem dX5_mostBehind_17 : decode cX5_mostBehind 17 = .ok (.if_icmp .ge 67, 3) := by decide +kernel
theorem dX5_mostBehind_20 : decode cX5_mostBehind 20 = .ok (.aload_n 0, 1) := by decide +kernel
theorem dX5_mostBehind_21 : decode cX5_mostBehind 21 = .ok (.getfield 9, 3) := by decide +kernel
theorem dX5_mostBehind_24 : decode cX5_mostBehind 24 = .ok (.iload_n 1, 1) := by decide +kernel
theorem dX5_mostBehind_25 : decode cX5_mostBehind 25 = .ok (.iaload, 1) := by decide +kernel
theorem dX5_mostBehind_26 : decode cX5_mostBehind 26 = .ok (.aload_n 0, 1) := by decide +kernel
theorem dX5_mostBehind_27 : decode cX5_mostBehind 27 = .ok (.getfield 9, 3) := by decide +kernel
theorem dX5_mostBehind_30 : decode cX5_mostBehind 30 = .ok (.iload 4, 2) := by decide +kernel
theorem dX5_mostBehind_32 : decode cX5_mostBehind 32 = .ok (.iaload, 1) := by decide +kernel
theorem dX5_mostBehind_33 : decode cX5_mostBehind 33 = .ok (.iload_n 2, 1) := by decide +kernel
theorem dX5_mostBehind_34 : decode cX5_mostBehind 34 = .ok (.iadd, 1) := by decide +kernel
theorem dX5_mostBehind_35 : decode cX5_mostBehind 35 = .ok (.invokestatic 53, 3) := by decide +kernel
theorem dX5_mostBehind_38 : decode cX5_mostBehind 38 = .ok (.istore 5, 2) := by decide +kernel
theorem dX5_mostBehind_40 : decode cX5_mostBehind 40 = .ok (.iload 5, 2) := by decide +kernel
theorem dX5_mostBehind_42 : decode cX5_mostBehind 42 = .ok (.aload_n 0, 1) := by decide +kernel
theorem dX5_mostBehind_43 : decode cX5_mostBehind 43 = .ok (.getfield 15, 3) := by decide +kernel
theorem dX5_mostBehind_46 : decode cX5_mostBehind 46 = .ok (.iload_n 1, 1) := by decide +kernel
theorem dX5_mostBehind_47 : decode cX5_mostBehind 47 = .ok (.iaload, 1) := by decide +kernel
theorem dX5_mostBehind_48 : decode cX5_mostBehind 48 = .ok (.aload_n 0, 1) := by decide +kernel
theorem dX5_mostBehind_49 : decode cX5_mostBehind 49 = .ok (.getfield 15, 3) := by decide +kernel
theorem dX5_mostBehind_52 : decode cX5_mostBehind 52 = .ok (.iload 4, 2) := by decide +kernel
theorem dX5_mostBehind_54 : decode cX5_mostBehind 54 = .ok (.iaload, 1) := by decide +kernel
theorem dX5_mostBehind_55 : decode cX5_mostBehind 55 = .ok (.iload_n 2, 1) := by decide +kernel
theorem dX5_mostBehind_56 : decode cX5_mostBehind 56 = .ok (.iadd, 1) := by decide +kernel
theorem dX5_mostBehind_57 : decode cX5_mostBehind 57 = .ok (.invokestatic 41, 3) := by decide +kernel
theorem dX5_mostBehind_60 : decode cX5_mostBehind 60 = .ok (.if_icmp .ge 18, 3) := by decide +kernel
theorem dX5_mostBehind_63 : decode cX5_mostBehind 63 = .ok (.iload_n 3, 1) := by decide +kernel
theorem dX5_mostBehind_64 : decode cX5_mostBehind 64 = .ok (.aload_n 0, 1) := by decide +kernel
theorem dX5_mostBehind_65 : decode cX5_mostBehind 65 = .ok (.getfield 18, 3) := by decide +kernel
theorem dX5_mostBehind_68 : decode cX5_mostBehind 68 = .ok (.getfield 47, 3) := by decide +kernel
theorem dX5_mostBehind_71 : decode cX5_mostBehind 71 = .ok (.iload 4, 2) := by decide +kernel
theorem dX5_mostBehind_73 : decode cX5_mostBehind 73 = .ok (.iaload, 1) := by decide +kernel
theorem dX5_mostBehind_74 : decode cX5_mostBehind 74 = .ok (.invokestatic 53, 3) := by decide +kernel
theorem dX5_mostBehind_77 : decode cX5_mostBehind 77 = .ok (.istore_n 3, 1) := by decide +kernel
theorem dX5_mostBehind_78 : decode cX5_mostBehind 78 = .ok (.iinc 4 1, 3) := by decide +kernel
theorem dX5_mostBehind_81 : decode cX5_mostBehind 81 = .ok (.goto (-76), 3) := by decide +kernel
theorem dX5_mostBehind_84 : decode cX5_mostBehind 84 = .ok (.iload_n 3, 1) := by decide +kernel
theorem dX5_mostBehind_85 : decode cX5_mostBehind 85 = .ok (.ireturn, 1) := by decide +kernel
theorem s40_0 : aW d 40 0 L S h Q = aW d 40 1 L (.int (nI 0) :: S) h Q := ax_iconst mt40 dX5_mostBehind_0 ic_0
theorem s40_1 : aW d 40 1 [l0, l1, l2, l3, l4, l5] (.int a :: S) h Q = aW d 40 2 [l0, l1, l2, .int a, l4, l5] S h Q := ax_istore_n mt40 dX5_mostBehind_1 (Nat.le_of_ble_eq_true rfl) rfl
theorem s40_2 : aW d 40 2 L S h Q = aW d 40 3 L (.int (nI 0) :: S) h Q := ax_iconst mt40 dX5_mostBehind_2 ic_0
theorem s40_3 : aW d 40 3 [l0, l1, l2, l3, l4, l5] (.int a :: S) h Q = aW d 40 5 [l0, l1, l2, l3, .int a, l5] S h Q := ax_istore mt40 dX5_mostBehind_3 (Nat.le_of_ble_eq_true rfl) rfl
theorem s40_5 : aW d 40 5 [l0, l1, l2, l3, .int a, l5] S h Q = aW d 40 7 [l0, l1, l2, l3, .int a, l5] (.int a :: S) h Q := ax_iload mt40 dX5_mostBehind_5 rfl
theorem s40_7 : aW d 40 7 [.ref o, l1, l2, l3, l4, l5] S h Q = aW d 40 8 [.ref o, l1, l2, l3, l4, l5] (.ref o :: S) h Q := ax_aload_n mt40 dX5_mostBehind_7 rfl
theorem s40_8 (hT : gT h o = some (7, 3)) : aW d 40 8 L (.ref o :: S) h Q = (isRf (gR h o 0) = true ∧ aW d 40 11 L (gR h o 0 :: S) h Q) := ax_geta mt40 dX5_mostBehind_8 (by decide) ft_20498 fk_20498 hT
theorem s40_11 (hT : gT h o = some (12, 9)) : aW d 40 11 L (.ref o :: S) h Q = (isRf (gR h o 1) = true ∧ aW d 40 14 L (gR h o 1 :: S) h Q) := ax_geta mt40 dX5_mostBehind_11 (by decide) ft_20502 fk_20502 hT
theorem s40_14 (hT : gT h o = some (8, 12)) : aW d 40 14 L (.ref o :: S) h Q = aW d 40 17 L (.int (gI h o 6) :: S) h Q := ax_geti mt40 dX5_mostBehind_14 (by decide) ft_20508 fk_20508 hT
theorem s40_17 : aW d 40 17 L (.int b :: .int a :: S) h Q = (if a < b then aW d 40 20 L S h Q else aW d 40 84 L S h Q) := ax_icmp_ge mt40 dX5_mostBehind_17 (by decide)
theorem s40_20 : aW d 40 20 [.ref o, l1, l2, l3, l4, l5] S h Q = aW d 40 21 [.ref o, l1, l2, l3, l4, l5] (.ref o :: S) h Q := ax_aload_n mt40 dX5_mostBehind_20 rfl
theorem s40_21 (hT : gT h o = some (7, 3)) : aW d 40 21 L (.ref o :: S) h Q = (isRf (gR h o 1) = true ∧ aW d 40 24 L (gR h o 1 :: S) h Q) := ax_geta mt40 dX5_mostBehind_21 (by decide) ft_20489 fk_20489 hT
theorem s40_24 : aW d 40 24 [l0, .int a, l2, l3, l4, l5] S h Q = aW d 40 25 [l0, .int a, l2, l3, l4, l5] (.int a :: S) h Q := ax_iload_n mt40 dX5_mostBehind_24 rfl
theorem s40_25 : aW d 40 25 L (.int a :: .ref o :: S) h Q = (inb a (aI h o) ∧ aW d 40 26 L (.int (gI h o a.toNatClampNeg) :: S) h Q) := ax_iald mt40 dX5_mostBehind_25
theorem s40_26 : aW d 40 26 [.ref o, l1, l2, l3, l4, l5] S h Q = aW d 40 27 [.ref o, l1, l2, l3, l4, l5] (.ref o :: S) h Q := ax_aload_n mt40 dX5_mostBehind_26 rfl
theorem s40_27 (hT : gT h o = some (7, 3)) : aW d 40 27 L (.ref o :: S) h Q = (isRf (gR h o 1) = true ∧ aW d 40 30 L (gR h o 1 :: S) h Q) := ax_geta mt40 dX5_mostBehind_27 (by decide) ft_20489 fk_20489 hT
theorem s40_30 : aW d 40 30 [l0, l1, l2, l3, .int a, l5] S h Q = aW d 40 32 [l0, l1, l2, l3, .int a, l5] (.int a :: S) h Q := ax_iload mt40 dX5_mostBehind_30 rfl
theorem s40_32 : aW d 40 32 L (.int a :: .ref o :: S) h Q = (inb a (aI h o) ∧ aW d 40 33 L (.int (gI h o a.toNatClampNeg) :: S) h Q) := ax_iald mt40 dX5_mostBehind_32
theorem s40_33 : aW d 40 33 [l0, l1, .int a, l3, l4, l5] S h Q = aW d 40 34 [l0, l1, .int a, l3, l4, l5] (.int a :: S) h Q := ax_iload_n mt40 dX5_mostBehind_33 rfl
theorem s40_34 : aW d 40 34 L (.int b :: .int a :: S) h Q = aW d 40 35 L (.int (a + b) :: S) h Q := ax_iadd mt40 dX5_mostBehind_34
theorem s40_35 : aW (d + 1) 40 35 L (.int b :: .int a :: []) h Q = aW (d + 1) 40 38 L (.int (iMax a b) :: []) h Q := ax_max mt40 dX5_mostBehind_35 (by decide) ct_20533 (Nat.le_of_ble_eq_true rfl)
theorem s40_38 : aW d 40 38 [l0, l1, l2, l3, l4, l5] (.int a :: S) h Q = aW d 40 40 [l0, l1, l2, l3, l4, .int a] S h Q := ax_istore mt40 dX5_mostBehind_38 (Nat.le_of_ble_eq_true rfl) rfl
theorem s40_40 : aW d 40 40 [l0, l1, l2, l3, l4, .int a] S h Q = aW d 40 42 [l0, l1, l2, l3, l4, .int a] (.int a :: S) h Q := ax_iload mt40 dX5_mostBehind_40 rfl
theorem s40_42 : aW d 40 42 [.ref o, l1, l2, l3, l4, l5] S h Q = aW d 40 43 [.ref o, l1, l2, l3, l4, l5] (.ref o :: S) h Q := ax_aload_n mt40 dX5_mostBehind_42 rfl
theorem s40_43 (hT : gT h o = some (7, 3)) : aW d 40 43 L (.ref o :: S) h Q = (isRf (gR h o 2) = true ∧ aW d 40 46 L (gR h o 2 :: S) h Q) := ax_geta mt40 dX5_mostBehind_43 (by decide) ft_20495 fk_20495 hT
theorem s40_46 : aW d 40 46 [l0, .int a, l2, l3, l4, l5] S h Q = aW d 40 47 [l0, .int a, l2, l3, l4, l5] (.int a :: S) h Q := ax_iload_n mt40 dX5_mostBehind_46 rfl
theorem s40_47 : aW d 40 47 L (.int a :: .ref o :: S) h Q = (inb a (aI h o) ∧ aW d 40 48 L (.int (gI h o a.toNatClampNeg) :: S) h Q) := ax_iald mt40 dX5_mostBehind_47
theorem s40_48 : aW d 40 48 [.ref o, l1, l2, l3, l4, l5] S h Q = aW d 40 49 [.ref o, l1, l2, l3, l4, l5] (.ref o :: S) h Q := ax_aload_n mt40 dX5_mostBehind_48 rfl
theorem s40_49 (hT : gT h o = some (7, 3)) : aW d 40 49 L (.ref o :: S) h Q = (isRf (gR h o 2) = true ∧ aW d 40 52 L (gR h o 2 :: S) h Q) := ax_geta mt40 dX5_mostBehind_49 (by decide) ft_20495 fk_20495 hT
theorem s40_52 : aW d 40 52 [l0, l1, l2, l3, .int a, l5] S h Q = aW d 40 54 [l0, l1, l2, l3, .int a, l5] (.int a :: S) h Q := ax_iload mt40 dX5_mostBehind_52 rfl
theorem s40_54 : aW d 40 54 L (.int a :: .ref o :: S) h Q = (inb a (aI h o) ∧ aW d 40 55 L (.int (gI h o a.toNatClampNeg) :: S) h Q) := ax_iald mt40 dX5_mostBehind_54
theorem s40_55 : aW d 40 55 [l0, l1, .int a, l3, l4, l5] S h Q = aW d 40 56 [l0, l1, .int a, l3, l4, l5] (.int a :: S) h Q := ax_iload_n mt40 dX5_mostBehind_55 rfl
theorem s40_56 : aW d 40 56 L (.int b :: .int a :: S) h Q = aW d 40 57 L (.int (a + b) :: S) h Q := ax_iadd mt40 dX5_mostBehind_56
theorem s40_57 : aW (d + 1) 40 57 L (.int b :: .int a :: [.int y0]) h Q = aW (d + 1) 40 60 L (.int (iMin a b) :: [.int y0]) h Q := ax_min mt40 dX5_mostBehind_57 (by decide) ct_20521 (Nat.le_of_ble_eq_true rfl)
theorem s40_60 : aW d 40 60 L (.int b :: .int a :: S) h Q = (if a < b then aW d 40 63 L S h Q else aW d 40 78 L S h Q) := ax_icmp_ge mt40 dX5_mostBehind_60 (by decide)
theorem s40_63 : aW d 40 63 [l0, l1, l2, .int a, l4, l5] S h Q = aW d 40 64 [l0, l1, l2, .int a, l4, l5] (.int a :: S) h Q := ax_iload_n mt40 dX5_mostBehind_63 rfl
theorem s40_64 : aW d 40 64 [.ref o, l1, l2, l3, l4, l5] S h Q = aW d 40 65 [.ref o, l1, l2, l3, l4, l5] (.ref o :: S) h Q := ax_aload_n mt40 dX5_mostBehind_64 rfl
theorem s40_65 (hT : gT h o = some (7, 3)) : aW d 40 65 L (.ref o :: S) h Q = (isRf (gR h o 0) = true ∧ aW d 40 68 L (gR h o 0 :: S) h Q) := ax_geta mt40 dX5_mostBehind_65 (by decide) ft_20498 fk_20498 hT
theorem s40_68 (hT : gT h o = some (12, 9)) : aW d 40 68 L (.ref o :: S) h Q = (isRf (gR h o 6) = true ∧ aW d 40 71 L (gR h o 6 :: S) h Q) := ax_geta mt40 dX5_mostBehind_68 (by decide) ft_20527 fk_20527 hT
theorem s40_71 : aW d 40 71 [l0, l1, l2, l3, .int a, l5] S h Q = aW d 40 73 [l0, l1, l2, l3, .int a, l5] (.int a :: S) h Q := ax_iload mt40 dX5_mostBehind_71 rfl
theorem s40_73 : aW d 40 73 L (.int a :: .ref o :: S) h Q = (inb a (aI h o) ∧ aW d 40 74 L (.int (gI h o a.toNatClampNeg) :: S) h Q) := ax_iald mt40 dX5_mostBehind_73
theorem s40_74 : aW (d + 1) 40 74 L (.int b :: .int a :: []) h Q = aW (d + 1) 40 77 L (.int (iMax a b) :: []) h Q := ax_max mt40 dX5_mostBehind_74 (by decide) ct_20533 (Nat.le_of_ble_eq_true rfl)
theorem s40_77 : aW d 40 77 [l0, l1, l2, l3, l4, l5] (.int a :: S) h Q = aW d 40 78 [l0, l1, l2, .int a, l4, l5] S h Q := ax_istore_n mt40 dX5_mostBehind_77 (Nat.le_of_ble_eq_true rfl) rfl
theorem s40_78 : aW d 40 78 [l0, l1, l2, l3, .int a, l5] S h Q = aW d 40 81 [l0, l1, l2, l3, .int (a + nI 1), l5] S h Q := ax_iinc mt40 dX5_mostBehind_78 rfl ic_1 rfl
theorem s40_81 : aW d 40 81 L S h Q = aW d 40 5 L S h Q := ax_goto mt40 dX5_mostBehind_81 (by decide)
theorem s40_84 : aW d 40 84 [l0, l1, l2, .int a, l4, l5] S h Q = aW d 40 85 [l0, l1, l2, .int a, l4, l5] (.int a :: S) h Q := ax_iload_n mt40 dX5_mostBehind_84 rfl
theorem s40_85 : aW d 40 85 L [.int a] h Q = Q (some (.int a)) h := ax_reti mt40 dX5_mostBehind_85 rfl
-- method 41: BufferRoom$Pairing.bestOf(I)I
theorem dX5_bestOf_0 : decode cX5_bestOf 0 = .ok (.iconst 0, 1) := by decide +kernel
theorem dX5_bestOf_1 : decode cX5_bestOf 1 = .ok (.istore_n 2, 1) := by decide +kernel
theorem dX5_bestOf_2 : decode cX5_bestOf 2 = .ok (.aload_n 0, 1) := by decide +kernel
theorem dX5_bestOf_3 : decode cX5_bestOf 3 = .ok (.iconst 0, 1) := by decide +kernel
theorem dX5_bestOf_4 : decode cX5_bestOf 4 = .ok (.invokevirtual 56, 3) := by decide +kernel
theorem dX5_bestOf_7 : decode cX5_bestOf 7 = .ok (.istore_n 3, 1) := by decide +kernel
theorem dX5_bestOf_8 : decode cX5_bestOf 8 = .ok (.iconst 1, 1) := by decide +kernel
theorem dX5_bestOf_9 : decode cX5_bestOf 9 = .ok (.istore 4, 2) := by decide +kernel
theorem dX5_bestOf_11 : decode cX5_bestOf 11 = .ok (.iload 4, 2) := by decide +kernel
theorem dX5_bestOf_13 : decode cX5_bestOf 13 = .ok (.iload_n 1, 1) := by decide +kernel
theorem dX5_bestOf_14 : decode cX5_bestOf 14 = .ok (.if_icmp .gt 29, 3) := by decide +kernel
theorem dX5_bestOf_17 : decode cX5_bestOf 17 = .ok (.aload_n 0, 1) := by decide +kernel
theorem dX5_bestOf_18 : decode cX5_bestOf 18 = .ok (.iload 4, 2) := by decide +kernel
theorem dX5_bestOf_20 : decode cX5_bestOf 20 = .ok (.invokevirtual 56, 3) := by decide +kernel
theorem dX5_bestOf_23 : decode cX5_bestOf 23 = .ok (.istore 5, 2) := by decide +kernel
theorem dX5_bestOf_25 : decode cX5_bestOf 25 = .ok (.iload 5, 2) := by decide +kernel
theorem dX5_bestOf_27 : decode cX5_bestOf 27 = .ok (.iload_n 3, 1) := by decide +kernel
theorem dX5_bestOf_28 : decode cX5_bestOf 28 = .ok (.if_icmp .ge 9, 3) := by decide +kernel
theorem dX5_bestOf_31 : decode cX5_bestOf 31 = .ok (.iload 4, 2) := by decide +kernel
theorem dX5_bestOf_33 : decode cX5_bestOf 33 = .ok (.istore_n 2, 1) := by decide +kernel
theorem dX5_bestOf_34 : decode cX5_bestOf 34 = .ok (.iload 5, 2) := by decide +kernel
theorem dX5_bestOf_36 : decode cX5_bestOf 36 = .ok (.istore_n 3, 1) := by decide +kernel
theorem dX5_bestOf_37 : decode cX5_bestOf 37 = .ok (.iinc 4 1, 3) := by decide +kernel
theorem dX5_bestOf_40 : decode cX5_bestOf 40 = .ok (.goto (-29), 3) := by decide +kernel
theorem dX5_bestOf_43 : decode cX5_bestOf 43 = .ok (.iload_n 2, 1) := by decide +kernel
theorem dX5_bestOf_44 : decode cX5_bestOf 44 = .ok (.ireturn, 1) := by decide +kernel
theorem s41_0 : aW d 41 0 L S h Q = aW d 41 1 L (.int (nI 0) :: S) h Q := ax_iconst mt41 dX5_bestOf_0 ic_0
theorem s41_1 : aW d 41 1 [l0, l1, l2, l3, l4, l5] (.int a :: S) h Q = aW d 41 2 [l0, l1, .int a, l3, l4, l5] S h Q := ax_istore_n mt41 dX5_bestOf_1 (Nat.le_of_ble_eq_true rfl) rfl
theorem s41_2 : aW d 41 2 [.ref o, l1, l2, l3, l4, l5] S h Q = aW d 41 3 [.ref o, l1, l2, l3, l4, l5] (.ref o :: S) h Q := ax_aload_n mt41 dX5_bestOf_2 rfl
theorem s41_3 : aW d 41 3 L S h Q = aW d 41 4 L (.int (nI 0) :: S) h Q := ax_iconst mt41 dX5_bestOf_3 ic_0
theorem s41_4 (hT : gT h o = some (7, 3)) : aW (d + 1) 41 4 L (.int x0 :: .ref o :: []) h Q = aM d 39 (.ref o :: [.int x0]) h (fun v h1 => aW (d + 1) 41 7 L (ab_ps v []) h1 Q) := ax_invv mt41 dX5_bestOf_4 (by decide) ct_20536 (.inl rfl) mt39 ⟨⟨Nat.le_of_ble_eq_true rfl, Nat.le_of_ble_eq_true rfl, Nat.le_of_ble_eq_true rfl⟩, rfl, rfl, rfl⟩ hT
theorem s41_7 : aW d 41 7 [l0, l1, l2, l3, l4, l5] (.int a :: S) h Q = aW d 41 8 [l0, l1, l2, .int a, l4, l5] S h Q := ax_istore_n mt41 dX5_bestOf_7 (Nat.le_of_ble_eq_true rfl) rfl
theorem s41_8 : aW d 41 8 L S h Q = aW d 41 9 L (.int (nI 1) :: S) h Q := ax_iconst mt41 dX5_bestOf_8 ic_1
theorem s41_9 : aW d 41 9 [l0, l1, l2, l3, l4, l5] (.int a :: S) h Q = aW d 41 11 [l0, l1, l2, l3, .int a, l5] S h Q := ax_istore mt41 dX5_bestOf_9 (Nat.le_of_ble_eq_true rfl) rfl
theorem s41_11 : aW d 41 11 [l0, l1, l2, l3, .int a, l5] S h Q = aW d 41 13 [l0, l1, l2, l3, .int a, l5] (.int a :: S) h Q := ax_iload mt41 dX5_bestOf_11 rfl
theorem s41_13 : aW d 41 13 [l0, .int a, l2, l3, l4, l5] S h Q = aW d 41 14 [l0, .int a, l2, l3, l4, l5] (.int a :: S) h Q := ax_iload_n mt41 dX5_bestOf_13 rfl
theorem s41_14 : aW d 41 14 L (.int b :: .int a :: S) h Q = (if b < a then aW d 41 43 L S h Q else aW d 41 17 L S h Q) := ax_icmp_gt mt41 dX5_bestOf_14 (by decide)
theorem s41_17 : aW d 41 17 [.ref o, l1, l2, l3, l4, l5] S h Q = aW d 41 18 [.ref o, l1, l2, l3, l4, l5] (.ref o :: S) h Q := ax_aload_n mt41 dX5_bestOf_17 rfl
theorem s41_18 : aW d 41 18 [l0, l1, l2, l3, .int a, l5] S h Q = aW d 41 20 [l0, l1, l2, l3, .int a, l5] (.int a :: S) h Q := ax_iload mt41 dX5_bestOf_18 rfl
theorem s41_20 (hT : gT h o = some (7, 3)) : aW (d + 1) 41 20 L (.int x0 :: .ref o :: []) h Q = aM d 39 (.ref o :: [.int x0]) h (fun v h1 => aW (d + 1) 41 23 L (ab_ps v []) h1 Q) := ax_invv mt41 dX5_bestOf_20 (by decide) ct_20536 (.inl rfl) mt39 ⟨⟨Nat.le_of_ble_eq_true rfl, Nat.le_of_ble_eq_true rfl, Nat.le_of_ble_eq_true rfl⟩, rfl, rfl, rfl⟩ hT
theorem s41_23 : aW d 41 23 [l0, l1, l2, l3, l4, l5] (.int a :: S) h Q = aW d 41 25 [l0, l1, l2, l3, l4, .int a] S h Q := ax_istore mt41 dX5_bestOf_23 (Nat.le_of_ble_eq_true rfl) rfl
theorem s41_25 : aW d 41 25 [l0, l1, l2, l3, l4, .int a] S h Q = aW d 41 27 [l0, l1, l2, l3, l4, .int a] (.int a :: S) h Q := ax_iload mt41 dX5_bestOf_25 rfl
theorem s41_27 : aW d 41 27 [l0, l1, l2, .int a, l4, l5] S h Q = aW d 41 28 [l0, l1, l2, .int a, l4, l5] (.int a :: S) h Q := ax_iload_n mt41 dX5_bestOf_27 rfl
theorem s41_28 : aW d 41 28 L (.int b :: .int a :: S) h Q = (if a < b then aW d 41 31 L S h Q else aW d 41 37 L S h Q) := ax_icmp_ge mt41 dX5_bestOf_28 (by decide)
theorem s41_31 : aW d 41 31 [l0, l1, l2, l3, .int a, l5] S h Q = aW d 41 33 [l0, l1, l2, l3, .int a, l5] (.int a :: S) h Q := ax_iload mt41 dX5_bestOf_31 rfl
theorem s41_33 : aW d 41 33 [l0, l1, l2, l3, l4, l5] (.int a :: S) h Q = aW d 41 34 [l0, l1, .int a, l3, l4, l5] S h Q := ax_istore_n mt41 dX5_bestOf_33 (Nat.le_of_ble_eq_true rfl) rfl
theorem s41_34 : aW d 41 34 [l0, l1, l2, l3, l4, .int a] S h Q = aW d 41 36 [l0, l1, l2, l3, l4, .int a] (.int a :: S) h Q := ax_iload mt41 dX5_bestOf_34 rfl
theorem s41_36 : aW d 41 36 [l0, l1, l2, l3, l4, l5] (.int a :: S) h Q = aW d 41 37 [l0, l1, l2, .int a, l4, l5] S h Q := ax_istore_n mt41 dX5_bestOf_36 (Nat.le_of_ble_eq_true rfl) rfl
theorem s41_37 : aW d 41 37 [l0, l1, l2, l3, .int a, l5] S h Q = aW d 41 40 [l0, l1, l2, l3, .int (a + nI 1), l5] S h Q := ax_iinc mt41 dX5_bestOf_37 rfl ic_1 rfl
theorem s41_40 : aW d 41 40 L S h Q = aW d 41 11 L S h Q := ax_goto mt41 dX5_bestOf_40 (by decide)
theorem s41_43 : aW d 41 43 [l0, l1, .int a, l3, l4, l5] S h Q = aW d 41 44 [l0, l1, .int a, l3, l4, l5] (.int a :: S) h Q := ax_iload_n mt41 dX5_bestOf_43 rfl
theorem s41_44 : aW d 41 44 L [.int a] h Q = Q (some (.int a)) h := ax_reti mt41 dX5_bestOf_44 rfl
-- method 219: java/lang/Integer.bitCount(I)I
theorem dJ6_bitCount_0f7a4_0 : decode cJ6_bitCount_0f7a4 0 = .ok (.iload_n 0, 1) := by decide +kernel
theorem dJ6_bitCount_0f7a4_1 : decode cJ6_bitCount_0f7a4 1 = .ok (.iload_n 0, 1) := by decide +kernel
theorem dJ6_bitCount_0f7a4_2 : decode cJ6_bitCount_0f7a4 2 = .ok (.iconst 1, 1) := by decide +kernel
theorem dJ6_bitCount_0f7a4_3 : decode cJ6_bitCount_0f7a4 3 = .ok (.iushr, 1) := by decide +kernel
theorem dJ6_bitCount_0f7a4_4 : decode cJ6_bitCount_0f7a4 4 = .ok (.ldc_w 265, 3) := by decide +kernel
theorem dJ6_bitCount_0f7a4_7 : decode cJ6_bitCount_0f7a4 7 = .ok (.iand, 1) := by decide +kernel
theorem dJ6_bitCount_0f7a4_8 : decode cJ6_bitCount_0f7a4 8 = .ok (.isub, 1) := by decide +kernel
theorem dJ6_bitCount_0f7a4_9 : decode cJ6_bitCount_0f7a4 9 = .ok (.istore_n 0, 1) := by decide +kernel
theorem dJ6_bitCount_0f7a4_10 : decode cJ6_bitCount_0f7a4 10 = .ok (.iload_n 0, 1) := by decide +kernel
theorem dJ6_bitCount_0f7a4_11 : decode cJ6_bitCount_0f7a4 11 = .ok (.ldc_w 266, 3) := by decide +kernel
theorem dJ6_bitCount_0f7a4_14 : decode cJ6_bitCount_0f7a4 14 = .ok (.iand, 1) := by decide +kernel
theorem dJ6_bitCount_0f7a4_15 : decode cJ6_bitCount_0f7a4 15 = .ok (.iload_n 0, 1) := by decide +kernel
theorem dJ6_bitCount_0f7a4_16 : decode cJ6_bitCount_0f7a4 16 = .ok (.iconst 2, 1) := by decide +kernel
theorem dJ6_bitCount_0f7a4_17 : decode cJ6_bitCount_0f7a4 17 = .ok (.iushr, 1) := by decide +kernel
theorem dJ6_bitCount_0f7a4_18 : decode cJ6_bitCount_0f7a4 18 = .ok (.ldc_w 266, 3) := by decide +kernel
theorem dJ6_bitCount_0f7a4_21 : decode cJ6_bitCount_0f7a4 21 = .ok (.iand, 1) := by decide +kernel
theorem dJ6_bitCount_0f7a4_22 : decode cJ6_bitCount_0f7a4 22 = .ok (.iadd, 1) := by decide +kernel
theorem dJ6_bitCount_0f7a4_23 : decode cJ6_bitCount_0f7a4 23 = .ok (.istore_n 0, 1) := by decide +kernel
theorem dJ6_bitCount_0f7a4_24 : decode cJ6_bitCount_0f7a4 24 = .ok (.iload_n 0, 1) := by decide +kernel
theorem dJ6_bitCount_0f7a4_25 : decode cJ6_bitCount_0f7a4 25 = .ok (.iload_n 0, 1) := by decide +kernel
theorem dJ6_bitCount_0f7a4_26 : decode cJ6_bitCount_0f7a4 26 = .ok (.iconst 4, 1) := by decide +kernel
theorem dJ6_bitCount_0f7a4_27 : decode cJ6_bitCount_0f7a4 27 = .ok (.iushr, 1) := by decide +kernel
theorem dJ6_bitCount_0f7a4_28 : decode cJ6_bitCount_0f7a4 28 = .ok (.iadd, 1) := by decide +kernel
theorem dJ6_bitCount_0f7a4_29 : decode cJ6_bitCount_0f7a4 29 = .ok (.ldc_w 267, 3) := by decide +kernel
theorem dJ6_bitCount_0f7a4_32 : decode cJ6_bitCount_0f7a4 32 = .ok (.iand, 1) := by decide +kernel
theorem dJ6_bitCount_0f7a4_33 : decode cJ6_bitCount_0f7a4 33 = .ok (.istore_n 0, 1) := by decide +kernel
theorem dJ6_bitCount_0f7a4_34 : decode cJ6_bitCount_0f7a4 34 = .ok (.iload_n 0, 1) := by decide +kernel
theorem dJ6_bitCount_0f7a4_35 : decode cJ6_bitCount_0f7a4 35 = .ok (.iload_n 0, 1) := by decide +kernel
theorem dJ6_bitCount_0f7a4_36 : decode cJ6_bitCount_0f7a4 36 = .ok (.bipush 8, 2) := by decide +kernel
theorem dJ6_bitCount_0f7a4_38 : decode cJ6_bitCount_0f7a4 38 = .ok (.iushr, 1) := by decide +kernel
theorem dJ6_bitCount_0f7a4_39 : decode cJ6_bitCount_0f7a4 39 = .ok (.iadd, 1) := by decide +kernel
theorem dJ6_bitCount_0f7a4_40 : decode cJ6_bitCount_0f7a4 40 = .ok (.istore_n 0, 1) := by decide +kernel
theorem dJ6_bitCount_0f7a4_41 : decode cJ6_bitCount_0f7a4 41 = .ok (.iload_n 0, 1) := by decide +kernel
theorem dJ6_bitCount_0f7a4_42 : decode cJ6_bitCount_0f7a4 42 = .ok (.iload_n 0, 1) := by decide +kernel
theorem dJ6_bitCount_0f7a4_43 : decode cJ6_bitCount_0f7a4 43 = .ok (.bipush 16, 2) := by decide +kernel
theorem dJ6_bitCount_0f7a4_45 : decode cJ6_bitCount_0f7a4 45 = .ok (.iushr, 1) := by decide +kernel
theorem dJ6_bitCount_0f7a4_46 : decode cJ6_bitCount_0f7a4 46 = .ok (.iadd, 1) := by decide +kernel
theorem dJ6_bitCount_0f7a4_47 : decode cJ6_bitCount_0f7a4 47 = .ok (.istore_n 0, 1) := by decide +kernel
theorem dJ6_bitCount_0f7a4_48 : decode cJ6_bitCount_0f7a4 48 = .ok (.iload_n 0, 1) := by decide +kernel
theorem dJ6_bitCount_0f7a4_49 : decode cJ6_bitCount_0f7a4 49 = .ok (.bipush 63, 2) := by decide +kernel
theorem dJ6_bitCount_0f7a4_51 : decode cJ6_bitCount_0f7a4 51 = .ok (.iand, 1) := by decide +kernel
theorem dJ6_bitCount_0f7a4_52 : decode cJ6_bitCount_0f7a4 52 = .ok (.ireturn, 1) := by decide +kernel
theorem s219_0 : aW d 219 0 [.int a] S h Q = aW d 219 1 [.int a] (.int a :: S) h Q := ax_iload_n mt219 dJ6_bitCount_0f7a4_0 rfl
theorem s219_1 : aW d 219 1 [.int a] S h Q = aW d 219 2 [.int a] (.int a :: S) h Q := ax_iload_n mt219 dJ6_bitCount_0f7a4_1 rfl
theorem s219_2 : aW d 219 2 L S h Q = aW d 219 3 L (.int (nI 1) :: S) h Q := ax_iconst mt219 dJ6_bitCount_0f7a4_2 ic_1
theorem s219_3 : aW d 219 3 L (.int b :: .int a :: S) h Q = aW d 219 4 L (.int ((a.toUInt32 >>> (b.toUInt32 &&& Int32.toUInt32 31)).toInt32) :: S) h Q := ax_iushr mt219 dJ6_bitCount_0f7a4_3
theorem s219_4 : aW d 219 4 L S h Q = aW d 219 7 L (.int 1431655765 :: S) h Q := ax_ldc_w mt219 dJ6_bitCount_0f7a4_4 (by decide) kt_57609
theorem s219_7 : aW d 219 7 L (.int b :: .int a :: S) h Q = aW d 219 8 L (.int (a &&& b) :: S) h Q := ax_iand mt219 dJ6_bitCount_0f7a4_7
theorem s219_8 : aW d 219 8 L (.int b :: .int a :: S) h Q = aW d 219 9 L (.int (a - b) :: S) h Q := ax_isub mt219 dJ6_bitCount_0f7a4_8
theorem s219_9 : aW d 219 9 [l0] (.int a :: S) h Q = aW d 219 10 [.int a] S h Q := ax_istore_n mt219 dJ6_bitCount_0f7a4_9 (Nat.le_of_ble_eq_true rfl) rfl
theorem s219_10 : aW d 219 10 [.int a] S h Q = aW d 219 11 [.int a] (.int a :: S) h Q := ax_iload_n mt219 dJ6_bitCount_0f7a4_10 rfl
theorem s219_11 : aW d 219 11 L S h Q = aW d 219 14 L (.int 858993459 :: S) h Q := ax_ldc_w mt219 dJ6_bitCount_0f7a4_11 (by decide) kt_57610
theorem s219_14 : aW d 219 14 L (.int b :: .int a :: S) h Q = aW d 219 15 L (.int (a &&& b) :: S) h Q := ax_iand mt219 dJ6_bitCount_0f7a4_14
theorem s219_15 : aW d 219 15 [.int a] S h Q = aW d 219 16 [.int a] (.int a :: S) h Q := ax_iload_n mt219 dJ6_bitCount_0f7a4_15 rfl
theorem s219_16 : aW d 219 16 L S h Q = aW d 219 17 L (.int (nI 2) :: S) h Q := ax_iconst mt219 dJ6_bitCount_0f7a4_16 ic_2
theorem s219_17 : aW d 219 17 L (.int b :: .int a :: S) h Q = aW d 219 18 L (.int ((a.toUInt32 >>> (b.toUInt32 &&& Int32.toUInt32 31)).toInt32) :: S) h Q := ax_iushr mt219 dJ6_bitCount_0f7a4_17
theorem s219_18 : aW d 219 18 L S h Q = aW d 219 21 L (.int 858993459 :: S) h Q := ax_ldc_w mt219 dJ6_bitCount_0f7a4_18 (by decide) kt_57610
theorem s219_21 : aW d 219 21 L (.int b :: .int a :: S) h Q = aW d 219 22 L (.int (a &&& b) :: S) h Q := ax_iand mt219 dJ6_bitCount_0f7a4_21
theorem s219_22 : aW d 219 22 L (.int b :: .int a :: S) h Q = aW d 219 23 L (.int (a + b) :: S) h Q := ax_iadd mt219 dJ6_bitCount_0f7a4_22
theorem s219_23 : aW d 219 23 [l0] (.int a :: S) h Q = aW d 219 24 [.int a] S h Q := ax_istore_n mt219 dJ6_bitCount_0f7a4_23 (Nat.le_of_ble_eq_true rfl) rfl
theorem s219_24 : aW d 219 24 [.int a] S h Q = aW d 219 25 [.int a] (.int a :: S) h Q := ax_iload_n mt219 dJ6_bitCount_0f7a4_24 rfl
theorem s219_25 : aW d 219 25 [.int a] S h Q = aW d 219 26 [.int a] (.int a :: S) h Q := ax_iload_n mt219 dJ6_bitCount_0f7a4_25 rfl
theorem s219_26 : aW d 219 26 L S h Q = aW d 219 27 L (.int (nI 4) :: S) h Q := ax_iconst mt219 dJ6_bitCount_0f7a4_26 ic_4
theorem s219_27 : aW d 219 27 L (.int b :: .int a :: S) h Q = aW d 219 28 L (.int ((a.toUInt32 >>> (b.toUInt32 &&& Int32.toUInt32 31)).toInt32) :: S) h Q := ax_iushr mt219 dJ6_bitCount_0f7a4_27
theorem s219_28 : aW d 219 28 L (.int b :: .int a :: S) h Q = aW d 219 29 L (.int (a + b) :: S) h Q := ax_iadd mt219 dJ6_bitCount_0f7a4_28
theorem s219_29 : aW d 219 29 L S h Q = aW d 219 32 L (.int 252645135 :: S) h Q := ax_ldc_w mt219 dJ6_bitCount_0f7a4_29 (by decide) kt_57611
theorem s219_32 : aW d 219 32 L (.int b :: .int a :: S) h Q = aW d 219 33 L (.int (a &&& b) :: S) h Q := ax_iand mt219 dJ6_bitCount_0f7a4_32
theorem s219_33 : aW d 219 33 [l0] (.int a :: S) h Q = aW d 219 34 [.int a] S h Q := ax_istore_n mt219 dJ6_bitCount_0f7a4_33 (Nat.le_of_ble_eq_true rfl) rfl
theorem s219_34 : aW d 219 34 [.int a] S h Q = aW d 219 35 [.int a] (.int a :: S) h Q := ax_iload_n mt219 dJ6_bitCount_0f7a4_34 rfl
theorem s219_35 : aW d 219 35 [.int a] S h Q = aW d 219 36 [.int a] (.int a :: S) h Q := ax_iload_n mt219 dJ6_bitCount_0f7a4_35 rfl
theorem s219_36 : aW d 219 36 L S h Q = aW d 219 38 L (.int (nI 8) :: S) h Q := ax_bipush mt219 dJ6_bitCount_0f7a4_36 bp_8
theorem s219_38 : aW d 219 38 L (.int b :: .int a :: S) h Q = aW d 219 39 L (.int ((a.toUInt32 >>> (b.toUInt32 &&& Int32.toUInt32 31)).toInt32) :: S) h Q := ax_iushr mt219 dJ6_bitCount_0f7a4_38
theorem s219_39 : aW d 219 39 L (.int b :: .int a :: S) h Q = aW d 219 40 L (.int (a + b) :: S) h Q := ax_iadd mt219 dJ6_bitCount_0f7a4_39
theorem s219_40 : aW d 219 40 [l0] (.int a :: S) h Q = aW d 219 41 [.int a] S h Q := ax_istore_n mt219 dJ6_bitCount_0f7a4_40 (Nat.le_of_ble_eq_true rfl) rfl
theorem s219_41 : aW d 219 41 [.int a] S h Q = aW d 219 42 [.int a] (.int a :: S) h Q := ax_iload_n mt219 dJ6_bitCount_0f7a4_41 rfl
theorem s219_42 : aW d 219 42 [.int a] S h Q = aW d 219 43 [.int a] (.int a :: S) h Q := ax_iload_n mt219 dJ6_bitCount_0f7a4_42 rfl
theorem s219_43 : aW d 219 43 L S h Q = aW d 219 45 L (.int (nI 16) :: S) h Q := ax_bipush mt219 dJ6_bitCount_0f7a4_43 bp_16
theorem s219_45 : aW d 219 45 L (.int b :: .int a :: S) h Q = aW d 219 46 L (.int ((a.toUInt32 >>> (b.toUInt32 &&& Int32.toUInt32 31)).toInt32) :: S) h Q := ax_iushr mt219 dJ6_bitCount_0f7a4_45
theorem s219_46 : aW d 219 46 L (.int b :: .int a :: S) h Q = aW d 219 47 L (.int (a + b) :: S) h Q := ax_iadd mt219 dJ6_bitCount_0f7a4_46
theorem s219_47 : aW d 219 47 [l0] (.int a :: S) h Q = aW d 219 48 [.int a] S h Q := ax_istore_n mt219 dJ6_bitCount_0f7a4_47 (Nat.le_of_ble_eq_true rfl) rfl
theorem s219_48 : aW d 219 48 [.int a] S h Q = aW d 219 49 [.int a] (.int a :: S) h Q := ax_iload_n mt219 dJ6_bitCount_0f7a4_48 rfl
theorem s219_49 : aW d 219 49 L S h Q = aW d 219 51 L (.int (nI 63) :: S) h Q := ax_bipush mt219 dJ6_bitCount_0f7a4_49 bp_63
theorem s219_51 : aW d 219 51 L (.int b :: .int a :: S) h Q = aW d 219 52 L (.int (a &&& b) :: S) h Q := ax_iand mt219 dJ6_bitCount_0f7a4_51
theorem s219_52 : aW d 219 52 L [.int a] h Q = Q (some (.int a)) h := ax_reti mt219 dJ6_bitCount_0f7a4_52 rfl
end S
