/-! THE MADE OBJECTS: their kinds and lasting references -/
def KCT : List (Nat × Nat × Nat) := [(1, 101, 6), (2, 13, 14), (3, 9, 5), (4, 0, 240), (5, 8, 12), (6, 0, 12), (7, 0, 48), (8, 0, 48), (9, 1, 12), (10, 0, 12), (11, 0, 12), (12, 0, 10), (13, 0, 10), (14, 0, 10), (15, 0, 10), (16, 0, 40), (17, 8, 12), (18, 0, 12), (19, 0, 48), (20, 0, 48), (21, 1, 12), (22, 0, 12), (23, 0, 12), (24, 0, 10), (25, 0, 10), (26, 0, 10), (27, 0, 10), (28, 0, 40), (29, 12, 9), (30, 5, 4), (31, 0, 12), (32, 0, 10), (33, 1, 10), (34, 0, 10), (35, 0, 10), (36, 0, 10), (37, 0, 12), (38, 0, 12), (39, 6, 4), (40, 0, 1024), (41, 0, 10), (42, 4, 6), (43, 0, 6), (44, 0, 6), (45, 0, 12), (46, 10, 3), (47, 7, 3), (48, 0, 10), (49, 0, 10), (50, 3, 5), (51, 0, 12), (52, 0, 4), (53, 3, 5), (54, 0, 12), (55, 0, 4), (56, 2, 4), (57, 11, 3), (58, 0, 40), (59, 11, 3), (60, 0, 40), (61, 11, 3), (62, 0, 40), (63, 11, 3), (64, 0, 40)]
def KCR : List (Nat × Nat × Nat) := [(2, 0, 3), (2, 3, 29), (2, 4, 39), (2, 5, 42), (2, 6, 45), (2, 7, 46), (2, 8, 47), (2, 9, 50), (2, 10, 53), (2, 12, 56), (3, 0, 4), (5, 0, 6), (5, 1, 7), (5, 2, 8), (5, 3, 9), (5, 4, 10), (5, 5, 11), (5, 7, 12), (5, 8, 13), (5, 9, 14), (5, 10, 15), (5, 11, 16), (17, 0, 18), (17, 1, 19), (17, 2, 20), (17, 3, 21), (17, 4, 22), (17, 5, 23), (17, 7, 24), (17, 8, 25), (17, 9, 26), (17, 10, 27), (17, 11, 28), (29, 0, 30), (29, 4, 34), (29, 5, 35), (29, 6, 36), (29, 7, 37), (29, 8, 38), (30, 1, 31), (30, 2, 32), (30, 3, 33), (39, 2, 40), (39, 3, 41), (42, 3, 43), (42, 5, 44), (47, 1, 48), (47, 2, 49), (50, 3, 51), (50, 4, 52), (53, 3, 54), (53, 4, 55), (56, 0, 57), (56, 1, 59), (56, 2, 61), (56, 3, 63), (57, 2, 58), (59, 2, 60), (61, 2, 62), (63, 2, 64)]
def KC (h : abH) : Prop := (∀ e ∈ KCT, gT h e.1 = some e.2) ∧ ∀ e ∈ KCR, gR h e.1 e.2.1 = .ref e.2.2
theorem gt_1 {h : abH} (H : KC h) : gT h 1 = some (101, 6) := H.1 (1, 101, 6) (by decide)
theorem ai_1 {h : abH} (H : KC h) : aI h 1 = 6 := by unfold aI; rw [gt_1 H]; rfl
theorem gt_2 {h : abH} (H : KC h) : gT h 2 = some (13, 14) := H.1 (2, 13, 14) (by decide)
theorem gt_3 {h : abH} (H : KC h) : gT h 3 = some (9, 5) := H.1 (3, 9, 5) (by decide)
theorem gt_4 {h : abH} (H : KC h) : gT h 4 = some (0, 240) := H.1 (4, 0, 240) (by decide)
theorem ai_4 {h : abH} (H : KC h) : aI h 4 = 240 := by unfold aI; rw [gt_4 H]; rfl
theorem aj_4 {h : abH} (H : KC h) : aJ h 4 = 240 := by unfold aJ; rw [gt_4 H]; rfl
theorem gt_5 {h : abH} (H : KC h) : gT h 5 = some (8, 12) := H.1 (5, 8, 12) (by decide)
theorem gt_6 {h : abH} (H : KC h) : gT h 6 = some (0, 12) := H.1 (6, 0, 12) (by decide)
theorem ai_6 {h : abH} (H : KC h) : aI h 6 = 12 := by unfold aI; rw [gt_6 H]; rfl
theorem aj_6 {h : abH} (H : KC h) : aJ h 6 = 12 := by unfold aJ; rw [gt_6 H]; rfl
theorem gt_7 {h : abH} (H : KC h) : gT h 7 = some (0, 48) := H.1 (7, 0, 48) (by decide)
theorem ai_7 {h : abH} (H : KC h) : aI h 7 = 48 := by unfold aI; rw [gt_7 H]; rfl
theorem aj_7 {h : abH} (H : KC h) : aJ h 7 = 48 := by unfold aJ; rw [gt_7 H]; rfl
theorem gt_8 {h : abH} (H : KC h) : gT h 8 = some (0, 48) := H.1 (8, 0, 48) (by decide)
theorem ai_8 {h : abH} (H : KC h) : aI h 8 = 48 := by unfold aI; rw [gt_8 H]; rfl
theorem aj_8 {h : abH} (H : KC h) : aJ h 8 = 48 := by unfold aJ; rw [gt_8 H]; rfl
theorem gt_9 {h : abH} (H : KC h) : gT h 9 = some (1, 12) := H.1 (9, 1, 12) (by decide)
theorem az_9 {h : abH} (H : KC h) : aZ h 9 = 12 := by unfold aZ; rw [gt_9 H]; rfl
theorem gt_10 {h : abH} (H : KC h) : gT h 10 = some (0, 12) := H.1 (10, 0, 12) (by decide)
theorem ai_10 {h : abH} (H : KC h) : aI h 10 = 12 := by unfold aI; rw [gt_10 H]; rfl
theorem aj_10 {h : abH} (H : KC h) : aJ h 10 = 12 := by unfold aJ; rw [gt_10 H]; rfl
theorem gt_11 {h : abH} (H : KC h) : gT h 11 = some (0, 12) := H.1 (11, 0, 12) (by decide)
theorem ai_11 {h : abH} (H : KC h) : aI h 11 = 12 := by unfold aI; rw [gt_11 H]; rfl
theorem aj_11 {h : abH} (H : KC h) : aJ h 11 = 12 := by unfold aJ; rw [gt_11 H]; rfl
theorem gt_12 {h : abH} (H : KC h) : gT h 12 = some (0, 10) := H.1 (12, 0, 10) (by decide)
theorem ai_12 {h : abH} (H : KC h) : aI h 12 = 10 := by unfold aI; rw [gt_12 H]; rfl
theorem aj_12 {h : abH} (H : KC h) : aJ h 12 = 10 := by unfold aJ; rw [gt_12 H]; rfl
theorem gt_13 {h : abH} (H : KC h) : gT h 13 = some (0, 10) := H.1 (13, 0, 10) (by decide)
theorem ai_13 {h : abH} (H : KC h) : aI h 13 = 10 := by unfold aI; rw [gt_13 H]; rfl
theorem aj_13 {h : abH} (H : KC h) : aJ h 13 = 10 := by unfold aJ; rw [gt_13 H]; rfl
theorem gt_14 {h : abH} (H : KC h) : gT h 14 = some (0, 10) := H.1 (14, 0, 10) (by decide)
theorem ai_14 {h : abH} (H : KC h) : aI h 14 = 10 := by unfold aI; rw [gt_14 H]; rfl
theorem aj_14 {h : abH} (H : KC h) : aJ h 14 = 10 := by unfold aJ; rw [gt_14 H]; rfl
theorem gt_15 {h : abH} (H : KC h) : gT h 15 = some (0, 10) := H.1 (15, 0, 10) (by decide)
theorem ai_15 {h : abH} (H : KC h) : aI h 15 = 10 := by unfold aI; rw [gt_15 H]; rfl
theorem aj_15 {h : abH} (H : KC h) : aJ h 15 = 10 := by unfold aJ; rw [gt_15 H]; rfl
theorem gt_16 {h : abH} (H : KC h) : gT h 16 = some (0, 40) := H.1 (16, 0, 40) (by decide)
theorem ai_16 {h : abH} (H : KC h) : aI h 16 = 40 := by unfold aI; rw [gt_16 H]; rfl
theorem aj_16 {h : abH} (H : KC h) : aJ h 16 = 40 := by unfold aJ; rw [gt_16 H]; rfl
theorem gt_17 {h : abH} (H : KC h) : gT h 17 = some (8, 12) := H.1 (17, 8, 12) (by decide)
theorem gt_18 {h : abH} (H : KC h) : gT h 18 = some (0, 12) := H.1 (18, 0, 12) (by decide)
theorem ai_18 {h : abH} (H : KC h) : aI h 18 = 12 := by unfold aI; rw [gt_18 H]; rfl
theorem aj_18 {h : abH} (H : KC h) : aJ h 18 = 12 := by unfold aJ; rw [gt_18 H]; rfl
theorem gt_19 {h : abH} (H : KC h) : gT h 19 = some (0, 48) := H.1 (19, 0, 48) (by decide)
theorem ai_19 {h : abH} (H : KC h) : aI h 19 = 48 := by unfold aI; rw [gt_19 H]; rfl
theorem aj_19 {h : abH} (H : KC h) : aJ h 19 = 48 := by unfold aJ; rw [gt_19 H]; rfl
theorem gt_20 {h : abH} (H : KC h) : gT h 20 = some (0, 48) := H.1 (20, 0, 48) (by decide)
theorem ai_20 {h : abH} (H : KC h) : aI h 20 = 48 := by unfold aI; rw [gt_20 H]; rfl
theorem aj_20 {h : abH} (H : KC h) : aJ h 20 = 48 := by unfold aJ; rw [gt_20 H]; rfl
theorem gt_21 {h : abH} (H : KC h) : gT h 21 = some (1, 12) := H.1 (21, 1, 12) (by decide)
theorem az_21 {h : abH} (H : KC h) : aZ h 21 = 12 := by unfold aZ; rw [gt_21 H]; rfl
theorem gt_22 {h : abH} (H : KC h) : gT h 22 = some (0, 12) := H.1 (22, 0, 12) (by decide)
theorem ai_22 {h : abH} (H : KC h) : aI h 22 = 12 := by unfold aI; rw [gt_22 H]; rfl
theorem aj_22 {h : abH} (H : KC h) : aJ h 22 = 12 := by unfold aJ; rw [gt_22 H]; rfl
theorem gt_23 {h : abH} (H : KC h) : gT h 23 = some (0, 12) := H.1 (23, 0, 12) (by decide)
theorem ai_23 {h : abH} (H : KC h) : aI h 23 = 12 := by unfold aI; rw [gt_23 H]; rfl
theorem aj_23 {h : abH} (H : KC h) : aJ h 23 = 12 := by unfold aJ; rw [gt_23 H]; rfl
theorem gt_24 {h : abH} (H : KC h) : gT h 24 = some (0, 10) := H.1 (24, 0, 10) (by decide)
theorem ai_24 {h : abH} (H : KC h) : aI h 24 = 10 := by unfold aI; rw [gt_24 H]; rfl
theorem aj_24 {h : abH} (H : KC h) : aJ h 24 = 10 := by unfold aJ; rw [gt_24 H]; rfl
theorem gt_25 {h : abH} (H : KC h) : gT h 25 = some (0, 10) := H.1 (25, 0, 10) (by decide)
theorem ai_25 {h : abH} (H : KC h) : aI h 25 = 10 := by unfold aI; rw [gt_25 H]; rfl
theorem aj_25 {h : abH} (H : KC h) : aJ h 25 = 10 := by unfold aJ; rw [gt_25 H]; rfl
theorem gt_26 {h : abH} (H : KC h) : gT h 26 = some (0, 10) := H.1 (26, 0, 10) (by decide)
theorem ai_26 {h : abH} (H : KC h) : aI h 26 = 10 := by unfold aI; rw [gt_26 H]; rfl
theorem aj_26 {h : abH} (H : KC h) : aJ h 26 = 10 := by unfold aJ; rw [gt_26 H]; rfl
theorem gt_27 {h : abH} (H : KC h) : gT h 27 = some (0, 10) := H.1 (27, 0, 10) (by decide)
theorem ai_27 {h : abH} (H : KC h) : aI h 27 = 10 := by unfold aI; rw [gt_27 H]; rfl
theorem aj_27 {h : abH} (H : KC h) : aJ h 27 = 10 := by unfold aJ; rw [gt_27 H]; rfl
theorem gt_28 {h : abH} (H : KC h) : gT h 28 = some (0, 40) := H.1 (28, 0, 40) (by decide)
theorem ai_28 {h : abH} (H : KC h) : aI h 28 = 40 := by unfold aI; rw [gt_28 H]; rfl
theorem aj_28 {h : abH} (H : KC h) : aJ h 28 = 40 := by unfold aJ; rw [gt_28 H]; rfl
theorem gt_29 {h : abH} (H : KC h) : gT h 29 = some (12, 9) := H.1 (29, 12, 9) (by decide)
theorem gt_30 {h : abH} (H : KC h) : gT h 30 = some (5, 4) := H.1 (30, 5, 4) (by decide)
theorem gt_31 {h : abH} (H : KC h) : gT h 31 = some (0, 12) := H.1 (31, 0, 12) (by decide)
theorem ai_31 {h : abH} (H : KC h) : aI h 31 = 12 := by unfold aI; rw [gt_31 H]; rfl
theorem aj_31 {h : abH} (H : KC h) : aJ h 31 = 12 := by unfold aJ; rw [gt_31 H]; rfl
theorem gt_32 {h : abH} (H : KC h) : gT h 32 = some (0, 10) := H.1 (32, 0, 10) (by decide)
theorem ai_32 {h : abH} (H : KC h) : aI h 32 = 10 := by unfold aI; rw [gt_32 H]; rfl
theorem aj_32 {h : abH} (H : KC h) : aJ h 32 = 10 := by unfold aJ; rw [gt_32 H]; rfl
theorem gt_33 {h : abH} (H : KC h) : gT h 33 = some (1, 10) := H.1 (33, 1, 10) (by decide)
theorem az_33 {h : abH} (H : KC h) : aZ h 33 = 10 := by unfold aZ; rw [gt_33 H]; rfl
theorem gt_34 {h : abH} (H : KC h) : gT h 34 = some (0, 10) := H.1 (34, 0, 10) (by decide)
theorem ai_34 {h : abH} (H : KC h) : aI h 34 = 10 := by unfold aI; rw [gt_34 H]; rfl
theorem aj_34 {h : abH} (H : KC h) : aJ h 34 = 10 := by unfold aJ; rw [gt_34 H]; rfl
theorem gt_35 {h : abH} (H : KC h) : gT h 35 = some (0, 10) := H.1 (35, 0, 10) (by decide)
theorem ai_35 {h : abH} (H : KC h) : aI h 35 = 10 := by unfold aI; rw [gt_35 H]; rfl
theorem aj_35 {h : abH} (H : KC h) : aJ h 35 = 10 := by unfold aJ; rw [gt_35 H]; rfl
theorem gt_36 {h : abH} (H : KC h) : gT h 36 = some (0, 10) := H.1 (36, 0, 10) (by decide)
theorem ai_36 {h : abH} (H : KC h) : aI h 36 = 10 := by unfold aI; rw [gt_36 H]; rfl
theorem aj_36 {h : abH} (H : KC h) : aJ h 36 = 10 := by unfold aJ; rw [gt_36 H]; rfl
theorem gt_37 {h : abH} (H : KC h) : gT h 37 = some (0, 12) := H.1 (37, 0, 12) (by decide)
theorem ai_37 {h : abH} (H : KC h) : aI h 37 = 12 := by unfold aI; rw [gt_37 H]; rfl
theorem aj_37 {h : abH} (H : KC h) : aJ h 37 = 12 := by unfold aJ; rw [gt_37 H]; rfl
theorem gt_38 {h : abH} (H : KC h) : gT h 38 = some (0, 12) := H.1 (38, 0, 12) (by decide)
theorem ai_38 {h : abH} (H : KC h) : aI h 38 = 12 := by unfold aI; rw [gt_38 H]; rfl
theorem aj_38 {h : abH} (H : KC h) : aJ h 38 = 12 := by unfold aJ; rw [gt_38 H]; rfl
theorem gt_39 {h : abH} (H : KC h) : gT h 39 = some (6, 4) := H.1 (39, 6, 4) (by decide)
theorem gt_40 {h : abH} (H : KC h) : gT h 40 = some (0, 1024) := H.1 (40, 0, 1024) (by decide)
theorem ai_40 {h : abH} (H : KC h) : aI h 40 = 1024 := by unfold aI; rw [gt_40 H]; rfl
theorem aj_40 {h : abH} (H : KC h) : aJ h 40 = 1024 := by unfold aJ; rw [gt_40 H]; rfl
theorem gt_41 {h : abH} (H : KC h) : gT h 41 = some (0, 10) := H.1 (41, 0, 10) (by decide)
theorem ai_41 {h : abH} (H : KC h) : aI h 41 = 10 := by unfold aI; rw [gt_41 H]; rfl
theorem aj_41 {h : abH} (H : KC h) : aJ h 41 = 10 := by unfold aJ; rw [gt_41 H]; rfl
theorem gt_42 {h : abH} (H : KC h) : gT h 42 = some (4, 6) := H.1 (42, 4, 6) (by decide)
theorem gt_43 {h : abH} (H : KC h) : gT h 43 = some (0, 6) := H.1 (43, 0, 6) (by decide)
theorem ai_43 {h : abH} (H : KC h) : aI h 43 = 6 := by unfold aI; rw [gt_43 H]; rfl
theorem aj_43 {h : abH} (H : KC h) : aJ h 43 = 6 := by unfold aJ; rw [gt_43 H]; rfl
theorem gt_44 {h : abH} (H : KC h) : gT h 44 = some (0, 6) := H.1 (44, 0, 6) (by decide)
theorem ai_44 {h : abH} (H : KC h) : aI h 44 = 6 := by unfold aI; rw [gt_44 H]; rfl
theorem aj_44 {h : abH} (H : KC h) : aJ h 44 = 6 := by unfold aJ; rw [gt_44 H]; rfl
theorem gt_45 {h : abH} (H : KC h) : gT h 45 = some (0, 12) := H.1 (45, 0, 12) (by decide)
theorem ai_45 {h : abH} (H : KC h) : aI h 45 = 12 := by unfold aI; rw [gt_45 H]; rfl
theorem aj_45 {h : abH} (H : KC h) : aJ h 45 = 12 := by unfold aJ; rw [gt_45 H]; rfl
theorem gt_46 {h : abH} (H : KC h) : gT h 46 = some (10, 3) := H.1 (46, 10, 3) (by decide)
theorem gt_47 {h : abH} (H : KC h) : gT h 47 = some (7, 3) := H.1 (47, 7, 3) (by decide)
theorem gt_48 {h : abH} (H : KC h) : gT h 48 = some (0, 10) := H.1 (48, 0, 10) (by decide)
theorem ai_48 {h : abH} (H : KC h) : aI h 48 = 10 := by unfold aI; rw [gt_48 H]; rfl
theorem aj_48 {h : abH} (H : KC h) : aJ h 48 = 10 := by unfold aJ; rw [gt_48 H]; rfl
theorem gt_49 {h : abH} (H : KC h) : gT h 49 = some (0, 10) := H.1 (49, 0, 10) (by decide)
theorem ai_49 {h : abH} (H : KC h) : aI h 49 = 10 := by unfold aI; rw [gt_49 H]; rfl
theorem aj_49 {h : abH} (H : KC h) : aJ h 49 = 10 := by unfold aJ; rw [gt_49 H]; rfl
theorem gt_50 {h : abH} (H : KC h) : gT h 50 = some (3, 5) := H.1 (50, 3, 5) (by decide)
theorem gt_51 {h : abH} (H : KC h) : gT h 51 = some (0, 12) := H.1 (51, 0, 12) (by decide)
theorem ai_51 {h : abH} (H : KC h) : aI h 51 = 12 := by unfold aI; rw [gt_51 H]; rfl
theorem aj_51 {h : abH} (H : KC h) : aJ h 51 = 12 := by unfold aJ; rw [gt_51 H]; rfl
theorem gt_52 {h : abH} (H : KC h) : gT h 52 = some (0, 4) := H.1 (52, 0, 4) (by decide)
theorem ai_52 {h : abH} (H : KC h) : aI h 52 = 4 := by unfold aI; rw [gt_52 H]; rfl
theorem aj_52 {h : abH} (H : KC h) : aJ h 52 = 4 := by unfold aJ; rw [gt_52 H]; rfl
theorem gt_53 {h : abH} (H : KC h) : gT h 53 = some (3, 5) := H.1 (53, 3, 5) (by decide)
theorem gt_54 {h : abH} (H : KC h) : gT h 54 = some (0, 12) := H.1 (54, 0, 12) (by decide)
theorem ai_54 {h : abH} (H : KC h) : aI h 54 = 12 := by unfold aI; rw [gt_54 H]; rfl
theorem aj_54 {h : abH} (H : KC h) : aJ h 54 = 12 := by unfold aJ; rw [gt_54 H]; rfl
theorem gt_55 {h : abH} (H : KC h) : gT h 55 = some (0, 4) := H.1 (55, 0, 4) (by decide)
theorem ai_55 {h : abH} (H : KC h) : aI h 55 = 4 := by unfold aI; rw [gt_55 H]; rfl
theorem aj_55 {h : abH} (H : KC h) : aJ h 55 = 4 := by unfold aJ; rw [gt_55 H]; rfl
theorem gt_56 {h : abH} (H : KC h) : gT h 56 = some (2, 4) := H.1 (56, 2, 4) (by decide)
theorem aq_56 {h : abH} (H : KC h) : aQ h 56 = 4 := by unfold aQ; rw [gt_56 H]; rfl
theorem gt_57 {h : abH} (H : KC h) : gT h 57 = some (11, 3) := H.1 (57, 11, 3) (by decide)
theorem gt_58 {h : abH} (H : KC h) : gT h 58 = some (0, 40) := H.1 (58, 0, 40) (by decide)
theorem ai_58 {h : abH} (H : KC h) : aI h 58 = 40 := by unfold aI; rw [gt_58 H]; rfl
theorem aj_58 {h : abH} (H : KC h) : aJ h 58 = 40 := by unfold aJ; rw [gt_58 H]; rfl
theorem gt_59 {h : abH} (H : KC h) : gT h 59 = some (11, 3) := H.1 (59, 11, 3) (by decide)
theorem gt_60 {h : abH} (H : KC h) : gT h 60 = some (0, 40) := H.1 (60, 0, 40) (by decide)
theorem ai_60 {h : abH} (H : KC h) : aI h 60 = 40 := by unfold aI; rw [gt_60 H]; rfl
theorem aj_60 {h : abH} (H : KC h) : aJ h 60 = 40 := by unfold aJ; rw [gt_60 H]; rfl
theorem gt_61 {h : abH} (H : KC h) : gT h 61 = some (11, 3) := H.1 (61, 11, 3) (by decide)
theorem gt_62 {h : abH} (H : KC h) : gT h 62 = some (0, 40) := H.1 (62, 0, 40) (by decide)
theorem ai_62 {h : abH} (H : KC h) : aI h 62 = 40 := by unfold aI; rw [gt_62 H]; rfl
theorem aj_62 {h : abH} (H : KC h) : aJ h 62 = 40 := by unfold aJ; rw [gt_62 H]; rfl
theorem gt_63 {h : abH} (H : KC h) : gT h 63 = some (11, 3) := H.1 (63, 11, 3) (by decide)
theorem gt_64 {h : abH} (H : KC h) : gT h 64 = some (0, 40) := H.1 (64, 0, 40) (by decide)
theorem ai_64 {h : abH} (H : KC h) : aI h 64 = 40 := by unfold aI; rw [gt_64 H]; rfl
theorem aj_64 {h : abH} (H : KC h) : aJ h 64 = 40 := by unfold aJ; rw [gt_64 H]; rfl
theorem gr_2_0 {h : abH} (H : KC h) : gR h 2 0 = .ref 3 := H.2 (2, 0, 3) (by decide)
theorem gr_2_3 {h : abH} (H : KC h) : gR h 2 3 = .ref 29 := H.2 (2, 3, 29) (by decide)
theorem gr_2_4 {h : abH} (H : KC h) : gR h 2 4 = .ref 39 := H.2 (2, 4, 39) (by decide)
theorem gr_2_5 {h : abH} (H : KC h) : gR h 2 5 = .ref 42 := H.2 (2, 5, 42) (by decide)
theorem gr_2_6 {h : abH} (H : KC h) : gR h 2 6 = .ref 45 := H.2 (2, 6, 45) (by decide)
theorem gr_2_7 {h : abH} (H : KC h) : gR h 2 7 = .ref 46 := H.2 (2, 7, 46) (by decide)
theorem gr_2_8 {h : abH} (H : KC h) : gR h 2 8 = .ref 47 := H.2 (2, 8, 47) (by decide)
theorem gr_2_9 {h : abH} (H : KC h) : gR h 2 9 = .ref 50 := H.2 (2, 9, 50) (by decide)
theorem gr_2_10 {h : abH} (H : KC h) : gR h 2 10 = .ref 53 := H.2 (2, 10, 53) (by decide)
theorem gr_2_12 {h : abH} (H : KC h) : gR h 2 12 = .ref 56 := H.2 (2, 12, 56) (by decide)
theorem gr_3_0 {h : abH} (H : KC h) : gR h 3 0 = .ref 4 := H.2 (3, 0, 4) (by decide)
theorem gr_5_0 {h : abH} (H : KC h) : gR h 5 0 = .ref 6 := H.2 (5, 0, 6) (by decide)
theorem gr_5_1 {h : abH} (H : KC h) : gR h 5 1 = .ref 7 := H.2 (5, 1, 7) (by decide)
theorem gr_5_2 {h : abH} (H : KC h) : gR h 5 2 = .ref 8 := H.2 (5, 2, 8) (by decide)
theorem gr_5_3 {h : abH} (H : KC h) : gR h 5 3 = .ref 9 := H.2 (5, 3, 9) (by decide)
theorem gr_5_4 {h : abH} (H : KC h) : gR h 5 4 = .ref 10 := H.2 (5, 4, 10) (by decide)
theorem gr_5_5 {h : abH} (H : KC h) : gR h 5 5 = .ref 11 := H.2 (5, 5, 11) (by decide)
theorem gr_5_7 {h : abH} (H : KC h) : gR h 5 7 = .ref 12 := H.2 (5, 7, 12) (by decide)
theorem gr_5_8 {h : abH} (H : KC h) : gR h 5 8 = .ref 13 := H.2 (5, 8, 13) (by decide)
theorem gr_5_9 {h : abH} (H : KC h) : gR h 5 9 = .ref 14 := H.2 (5, 9, 14) (by decide)
theorem gr_5_10 {h : abH} (H : KC h) : gR h 5 10 = .ref 15 := H.2 (5, 10, 15) (by decide)
theorem gr_5_11 {h : abH} (H : KC h) : gR h 5 11 = .ref 16 := H.2 (5, 11, 16) (by decide)
theorem gr_17_0 {h : abH} (H : KC h) : gR h 17 0 = .ref 18 := H.2 (17, 0, 18) (by decide)
theorem gr_17_1 {h : abH} (H : KC h) : gR h 17 1 = .ref 19 := H.2 (17, 1, 19) (by decide)
theorem gr_17_2 {h : abH} (H : KC h) : gR h 17 2 = .ref 20 := H.2 (17, 2, 20) (by decide)
theorem gr_17_3 {h : abH} (H : KC h) : gR h 17 3 = .ref 21 := H.2 (17, 3, 21) (by decide)
theorem gr_17_4 {h : abH} (H : KC h) : gR h 17 4 = .ref 22 := H.2 (17, 4, 22) (by decide)
theorem gr_17_5 {h : abH} (H : KC h) : gR h 17 5 = .ref 23 := H.2 (17, 5, 23) (by decide)
theorem gr_17_7 {h : abH} (H : KC h) : gR h 17 7 = .ref 24 := H.2 (17, 7, 24) (by decide)
theorem gr_17_8 {h : abH} (H : KC h) : gR h 17 8 = .ref 25 := H.2 (17, 8, 25) (by decide)
theorem gr_17_9 {h : abH} (H : KC h) : gR h 17 9 = .ref 26 := H.2 (17, 9, 26) (by decide)
theorem gr_17_10 {h : abH} (H : KC h) : gR h 17 10 = .ref 27 := H.2 (17, 10, 27) (by decide)
theorem gr_17_11 {h : abH} (H : KC h) : gR h 17 11 = .ref 28 := H.2 (17, 11, 28) (by decide)
theorem gr_29_0 {h : abH} (H : KC h) : gR h 29 0 = .ref 30 := H.2 (29, 0, 30) (by decide)
theorem gr_29_4 {h : abH} (H : KC h) : gR h 29 4 = .ref 34 := H.2 (29, 4, 34) (by decide)
theorem gr_29_5 {h : abH} (H : KC h) : gR h 29 5 = .ref 35 := H.2 (29, 5, 35) (by decide)
theorem gr_29_6 {h : abH} (H : KC h) : gR h 29 6 = .ref 36 := H.2 (29, 6, 36) (by decide)
theorem gr_29_7 {h : abH} (H : KC h) : gR h 29 7 = .ref 37 := H.2 (29, 7, 37) (by decide)
theorem gr_29_8 {h : abH} (H : KC h) : gR h 29 8 = .ref 38 := H.2 (29, 8, 38) (by decide)
theorem gr_30_1 {h : abH} (H : KC h) : gR h 30 1 = .ref 31 := H.2 (30, 1, 31) (by decide)
theorem gr_30_2 {h : abH} (H : KC h) : gR h 30 2 = .ref 32 := H.2 (30, 2, 32) (by decide)
theorem gr_30_3 {h : abH} (H : KC h) : gR h 30 3 = .ref 33 := H.2 (30, 3, 33) (by decide)
theorem gr_39_2 {h : abH} (H : KC h) : gR h 39 2 = .ref 40 := H.2 (39, 2, 40) (by decide)
theorem gr_39_3 {h : abH} (H : KC h) : gR h 39 3 = .ref 41 := H.2 (39, 3, 41) (by decide)
theorem gr_42_3 {h : abH} (H : KC h) : gR h 42 3 = .ref 43 := H.2 (42, 3, 43) (by decide)
theorem gr_42_5 {h : abH} (H : KC h) : gR h 42 5 = .ref 44 := H.2 (42, 5, 44) (by decide)
theorem gr_47_1 {h : abH} (H : KC h) : gR h 47 1 = .ref 48 := H.2 (47, 1, 48) (by decide)
theorem gr_47_2 {h : abH} (H : KC h) : gR h 47 2 = .ref 49 := H.2 (47, 2, 49) (by decide)
theorem gr_50_3 {h : abH} (H : KC h) : gR h 50 3 = .ref 51 := H.2 (50, 3, 51) (by decide)
theorem gr_50_4 {h : abH} (H : KC h) : gR h 50 4 = .ref 52 := H.2 (50, 4, 52) (by decide)
theorem gr_53_3 {h : abH} (H : KC h) : gR h 53 3 = .ref 54 := H.2 (53, 3, 54) (by decide)
theorem gr_53_4 {h : abH} (H : KC h) : gR h 53 4 = .ref 55 := H.2 (53, 4, 55) (by decide)
theorem gr_56_0 {h : abH} (H : KC h) : gR h 56 0 = .ref 57 := H.2 (56, 0, 57) (by decide)
theorem gr_56_1 {h : abH} (H : KC h) : gR h 56 1 = .ref 59 := H.2 (56, 1, 59) (by decide)
theorem gr_56_2 {h : abH} (H : KC h) : gR h 56 2 = .ref 61 := H.2 (56, 2, 61) (by decide)
theorem gr_56_3 {h : abH} (H : KC h) : gR h 56 3 = .ref 63 := H.2 (56, 3, 63) (by decide)
theorem gr_57_2 {h : abH} (H : KC h) : gR h 57 2 = .ref 58 := H.2 (57, 2, 58) (by decide)
theorem gr_59_2 {h : abH} (H : KC h) : gR h 59 2 = .ref 60 := H.2 (59, 2, 60) (by decide)
theorem gr_61_2 {h : abH} (H : KC h) : gR h 61 2 = .ref 62 := H.2 (61, 2, 62) (by decide)
theorem gr_63_2 {h : abH} (H : KC h) : gR h 63 2 = .ref 64 := H.2 (63, 2, 64) (by decide)
def KMT : List (Nat × Nat × Nat) := [(65, 14, 54), (66, 0, 240), (67, 0, 4), (68, 1, 12), (69, 0, 12), (70, 0, 48), (71, 0, 48), (72, 1, 12), (73, 0, 10), (74, 0, 10), (75, 0, 10), (76, 0, 10), (77, 0, 40), (78, 1, 12), (79, 0, 12), (80, 0, 60), (81, 0, 60), (82, 1, 12), (83, 0, 10), (84, 0, 10), (85, 0, 10), (86, 0, 10), (87, 0, 40), (88, 0, 10), (89, 0, 12), (90, 0, 6), (91, 0, 12), (92, 0, 12), (93, 0, 4), (94, 0, 4), (95, 0, 4), (96, 0, 160), (97, 0, 10), (98, 0, 12), (99, 0, 12), (100, 0, 1024), (101, 0, 6), (102, 0, 6), (103, 0, 400)]
def KMR : List (Nat × Nat × Nat) := [(65, 0, 66), (65, 3, 67), (65, 5, 68), (65, 6, 69), (65, 7, 70), (65, 8, 71), (65, 9, 72), (65, 10, 73), (65, 11, 74), (65, 12, 75), (65, 13, 76), (65, 14, 77), (65, 16, 78), (65, 17, 79), (65, 18, 80), (65, 19, 81), (65, 20, 82), (65, 21, 83), (65, 22, 84), (65, 23, 85), (65, 24, 86), (65, 25, 87), (65, 27, 88), (65, 28, 89), (65, 31, 90), (65, 35, 91), (65, 40, 92), (65, 41, 93), (65, 42, 94), (65, 43, 95), (65, 44, 96), (65, 46, 97), (65, 47, 98), (65, 48, 99), (65, 49, 100), (65, 50, 101), (65, 51, 102), (65, 52, 103)]
def KM (h : abH) : Prop := (∀ e ∈ KMT, gT h e.1 = some e.2) ∧ ∀ e ∈ KMR, gR h e.1 e.2.1 = .ref e.2.2
theorem gt_65 {h : abH} (H : KM h) : gT h 65 = some (14, 54) := H.1 (65, 14, 54) (by decide)
theorem gt_66 {h : abH} (H : KM h) : gT h 66 = some (0, 240) := H.1 (66, 0, 240) (by decide)
theorem ai_66 {h : abH} (H : KM h) : aI h 66 = 240 := by unfold aI; rw [gt_66 H]; rfl
theorem aj_66 {h : abH} (H : KM h) : aJ h 66 = 240 := by unfold aJ; rw [gt_66 H]; rfl
theorem gt_67 {h : abH} (H : KM h) : gT h 67 = some (0, 4) := H.1 (67, 0, 4) (by decide)
theorem ai_67 {h : abH} (H : KM h) : aI h 67 = 4 := by unfold aI; rw [gt_67 H]; rfl
theorem aj_67 {h : abH} (H : KM h) : aJ h 67 = 4 := by unfold aJ; rw [gt_67 H]; rfl
theorem gt_68 {h : abH} (H : KM h) : gT h 68 = some (1, 12) := H.1 (68, 1, 12) (by decide)
theorem az_68 {h : abH} (H : KM h) : aZ h 68 = 12 := by unfold aZ; rw [gt_68 H]; rfl
theorem gt_69 {h : abH} (H : KM h) : gT h 69 = some (0, 12) := H.1 (69, 0, 12) (by decide)
theorem ai_69 {h : abH} (H : KM h) : aI h 69 = 12 := by unfold aI; rw [gt_69 H]; rfl
theorem aj_69 {h : abH} (H : KM h) : aJ h 69 = 12 := by unfold aJ; rw [gt_69 H]; rfl
theorem gt_70 {h : abH} (H : KM h) : gT h 70 = some (0, 48) := H.1 (70, 0, 48) (by decide)
theorem ai_70 {h : abH} (H : KM h) : aI h 70 = 48 := by unfold aI; rw [gt_70 H]; rfl
theorem aj_70 {h : abH} (H : KM h) : aJ h 70 = 48 := by unfold aJ; rw [gt_70 H]; rfl
theorem gt_71 {h : abH} (H : KM h) : gT h 71 = some (0, 48) := H.1 (71, 0, 48) (by decide)
theorem ai_71 {h : abH} (H : KM h) : aI h 71 = 48 := by unfold aI; rw [gt_71 H]; rfl
theorem aj_71 {h : abH} (H : KM h) : aJ h 71 = 48 := by unfold aJ; rw [gt_71 H]; rfl
theorem gt_72 {h : abH} (H : KM h) : gT h 72 = some (1, 12) := H.1 (72, 1, 12) (by decide)
theorem az_72 {h : abH} (H : KM h) : aZ h 72 = 12 := by unfold aZ; rw [gt_72 H]; rfl
theorem gt_73 {h : abH} (H : KM h) : gT h 73 = some (0, 10) := H.1 (73, 0, 10) (by decide)
theorem ai_73 {h : abH} (H : KM h) : aI h 73 = 10 := by unfold aI; rw [gt_73 H]; rfl
theorem aj_73 {h : abH} (H : KM h) : aJ h 73 = 10 := by unfold aJ; rw [gt_73 H]; rfl
theorem gt_74 {h : abH} (H : KM h) : gT h 74 = some (0, 10) := H.1 (74, 0, 10) (by decide)
theorem ai_74 {h : abH} (H : KM h) : aI h 74 = 10 := by unfold aI; rw [gt_74 H]; rfl
theorem aj_74 {h : abH} (H : KM h) : aJ h 74 = 10 := by unfold aJ; rw [gt_74 H]; rfl
theorem gt_75 {h : abH} (H : KM h) : gT h 75 = some (0, 10) := H.1 (75, 0, 10) (by decide)
theorem ai_75 {h : abH} (H : KM h) : aI h 75 = 10 := by unfold aI; rw [gt_75 H]; rfl
theorem aj_75 {h : abH} (H : KM h) : aJ h 75 = 10 := by unfold aJ; rw [gt_75 H]; rfl
theorem gt_76 {h : abH} (H : KM h) : gT h 76 = some (0, 10) := H.1 (76, 0, 10) (by decide)
theorem ai_76 {h : abH} (H : KM h) : aI h 76 = 10 := by unfold aI; rw [gt_76 H]; rfl
theorem aj_76 {h : abH} (H : KM h) : aJ h 76 = 10 := by unfold aJ; rw [gt_76 H]; rfl
theorem gt_77 {h : abH} (H : KM h) : gT h 77 = some (0, 40) := H.1 (77, 0, 40) (by decide)
theorem ai_77 {h : abH} (H : KM h) : aI h 77 = 40 := by unfold aI; rw [gt_77 H]; rfl
theorem aj_77 {h : abH} (H : KM h) : aJ h 77 = 40 := by unfold aJ; rw [gt_77 H]; rfl
theorem gt_78 {h : abH} (H : KM h) : gT h 78 = some (1, 12) := H.1 (78, 1, 12) (by decide)
theorem az_78 {h : abH} (H : KM h) : aZ h 78 = 12 := by unfold aZ; rw [gt_78 H]; rfl
theorem gt_79 {h : abH} (H : KM h) : gT h 79 = some (0, 12) := H.1 (79, 0, 12) (by decide)
theorem ai_79 {h : abH} (H : KM h) : aI h 79 = 12 := by unfold aI; rw [gt_79 H]; rfl
theorem aj_79 {h : abH} (H : KM h) : aJ h 79 = 12 := by unfold aJ; rw [gt_79 H]; rfl
theorem gt_80 {h : abH} (H : KM h) : gT h 80 = some (0, 60) := H.1 (80, 0, 60) (by decide)
theorem ai_80 {h : abH} (H : KM h) : aI h 80 = 60 := by unfold aI; rw [gt_80 H]; rfl
theorem aj_80 {h : abH} (H : KM h) : aJ h 80 = 60 := by unfold aJ; rw [gt_80 H]; rfl
theorem gt_81 {h : abH} (H : KM h) : gT h 81 = some (0, 60) := H.1 (81, 0, 60) (by decide)
theorem ai_81 {h : abH} (H : KM h) : aI h 81 = 60 := by unfold aI; rw [gt_81 H]; rfl
theorem aj_81 {h : abH} (H : KM h) : aJ h 81 = 60 := by unfold aJ; rw [gt_81 H]; rfl
theorem gt_82 {h : abH} (H : KM h) : gT h 82 = some (1, 12) := H.1 (82, 1, 12) (by decide)
theorem az_82 {h : abH} (H : KM h) : aZ h 82 = 12 := by unfold aZ; rw [gt_82 H]; rfl
theorem gt_83 {h : abH} (H : KM h) : gT h 83 = some (0, 10) := H.1 (83, 0, 10) (by decide)
theorem ai_83 {h : abH} (H : KM h) : aI h 83 = 10 := by unfold aI; rw [gt_83 H]; rfl
theorem aj_83 {h : abH} (H : KM h) : aJ h 83 = 10 := by unfold aJ; rw [gt_83 H]; rfl
theorem gt_84 {h : abH} (H : KM h) : gT h 84 = some (0, 10) := H.1 (84, 0, 10) (by decide)
theorem ai_84 {h : abH} (H : KM h) : aI h 84 = 10 := by unfold aI; rw [gt_84 H]; rfl
theorem aj_84 {h : abH} (H : KM h) : aJ h 84 = 10 := by unfold aJ; rw [gt_84 H]; rfl
theorem gt_85 {h : abH} (H : KM h) : gT h 85 = some (0, 10) := H.1 (85, 0, 10) (by decide)
theorem ai_85 {h : abH} (H : KM h) : aI h 85 = 10 := by unfold aI; rw [gt_85 H]; rfl
theorem aj_85 {h : abH} (H : KM h) : aJ h 85 = 10 := by unfold aJ; rw [gt_85 H]; rfl
theorem gt_86 {h : abH} (H : KM h) : gT h 86 = some (0, 10) := H.1 (86, 0, 10) (by decide)
theorem ai_86 {h : abH} (H : KM h) : aI h 86 = 10 := by unfold aI; rw [gt_86 H]; rfl
theorem aj_86 {h : abH} (H : KM h) : aJ h 86 = 10 := by unfold aJ; rw [gt_86 H]; rfl
theorem gt_87 {h : abH} (H : KM h) : gT h 87 = some (0, 40) := H.1 (87, 0, 40) (by decide)
theorem ai_87 {h : abH} (H : KM h) : aI h 87 = 40 := by unfold aI; rw [gt_87 H]; rfl
theorem aj_87 {h : abH} (H : KM h) : aJ h 87 = 40 := by unfold aJ; rw [gt_87 H]; rfl
theorem gt_88 {h : abH} (H : KM h) : gT h 88 = some (0, 10) := H.1 (88, 0, 10) (by decide)
theorem ai_88 {h : abH} (H : KM h) : aI h 88 = 10 := by unfold aI; rw [gt_88 H]; rfl
theorem aj_88 {h : abH} (H : KM h) : aJ h 88 = 10 := by unfold aJ; rw [gt_88 H]; rfl
theorem gt_89 {h : abH} (H : KM h) : gT h 89 = some (0, 12) := H.1 (89, 0, 12) (by decide)
theorem ai_89 {h : abH} (H : KM h) : aI h 89 = 12 := by unfold aI; rw [gt_89 H]; rfl
theorem aj_89 {h : abH} (H : KM h) : aJ h 89 = 12 := by unfold aJ; rw [gt_89 H]; rfl
theorem gt_90 {h : abH} (H : KM h) : gT h 90 = some (0, 6) := H.1 (90, 0, 6) (by decide)
theorem ai_90 {h : abH} (H : KM h) : aI h 90 = 6 := by unfold aI; rw [gt_90 H]; rfl
theorem aj_90 {h : abH} (H : KM h) : aJ h 90 = 6 := by unfold aJ; rw [gt_90 H]; rfl
theorem gt_91 {h : abH} (H : KM h) : gT h 91 = some (0, 12) := H.1 (91, 0, 12) (by decide)
theorem ai_91 {h : abH} (H : KM h) : aI h 91 = 12 := by unfold aI; rw [gt_91 H]; rfl
theorem aj_91 {h : abH} (H : KM h) : aJ h 91 = 12 := by unfold aJ; rw [gt_91 H]; rfl
theorem gt_92 {h : abH} (H : KM h) : gT h 92 = some (0, 12) := H.1 (92, 0, 12) (by decide)
theorem ai_92 {h : abH} (H : KM h) : aI h 92 = 12 := by unfold aI; rw [gt_92 H]; rfl
theorem aj_92 {h : abH} (H : KM h) : aJ h 92 = 12 := by unfold aJ; rw [gt_92 H]; rfl
theorem gt_93 {h : abH} (H : KM h) : gT h 93 = some (0, 4) := H.1 (93, 0, 4) (by decide)
theorem ai_93 {h : abH} (H : KM h) : aI h 93 = 4 := by unfold aI; rw [gt_93 H]; rfl
theorem aj_93 {h : abH} (H : KM h) : aJ h 93 = 4 := by unfold aJ; rw [gt_93 H]; rfl
theorem gt_94 {h : abH} (H : KM h) : gT h 94 = some (0, 4) := H.1 (94, 0, 4) (by decide)
theorem ai_94 {h : abH} (H : KM h) : aI h 94 = 4 := by unfold aI; rw [gt_94 H]; rfl
theorem aj_94 {h : abH} (H : KM h) : aJ h 94 = 4 := by unfold aJ; rw [gt_94 H]; rfl
theorem gt_95 {h : abH} (H : KM h) : gT h 95 = some (0, 4) := H.1 (95, 0, 4) (by decide)
theorem ai_95 {h : abH} (H : KM h) : aI h 95 = 4 := by unfold aI; rw [gt_95 H]; rfl
theorem aj_95 {h : abH} (H : KM h) : aJ h 95 = 4 := by unfold aJ; rw [gt_95 H]; rfl
theorem gt_96 {h : abH} (H : KM h) : gT h 96 = some (0, 160) := H.1 (96, 0, 160) (by decide)
theorem ai_96 {h : abH} (H : KM h) : aI h 96 = 160 := by unfold aI; rw [gt_96 H]; rfl
theorem aj_96 {h : abH} (H : KM h) : aJ h 96 = 160 := by unfold aJ; rw [gt_96 H]; rfl
theorem gt_97 {h : abH} (H : KM h) : gT h 97 = some (0, 10) := H.1 (97, 0, 10) (by decide)
theorem ai_97 {h : abH} (H : KM h) : aI h 97 = 10 := by unfold aI; rw [gt_97 H]; rfl
theorem aj_97 {h : abH} (H : KM h) : aJ h 97 = 10 := by unfold aJ; rw [gt_97 H]; rfl
theorem gt_98 {h : abH} (H : KM h) : gT h 98 = some (0, 12) := H.1 (98, 0, 12) (by decide)
theorem ai_98 {h : abH} (H : KM h) : aI h 98 = 12 := by unfold aI; rw [gt_98 H]; rfl
theorem aj_98 {h : abH} (H : KM h) : aJ h 98 = 12 := by unfold aJ; rw [gt_98 H]; rfl
theorem gt_99 {h : abH} (H : KM h) : gT h 99 = some (0, 12) := H.1 (99, 0, 12) (by decide)
theorem ai_99 {h : abH} (H : KM h) : aI h 99 = 12 := by unfold aI; rw [gt_99 H]; rfl
theorem aj_99 {h : abH} (H : KM h) : aJ h 99 = 12 := by unfold aJ; rw [gt_99 H]; rfl
theorem gt_100 {h : abH} (H : KM h) : gT h 100 = some (0, 1024) := H.1 (100, 0, 1024) (by decide)
theorem ai_100 {h : abH} (H : KM h) : aI h 100 = 1024 := by unfold aI; rw [gt_100 H]; rfl
theorem aj_100 {h : abH} (H : KM h) : aJ h 100 = 1024 := by unfold aJ; rw [gt_100 H]; rfl
theorem gt_101 {h : abH} (H : KM h) : gT h 101 = some (0, 6) := H.1 (101, 0, 6) (by decide)
theorem ai_101 {h : abH} (H : KM h) : aI h 101 = 6 := by unfold aI; rw [gt_101 H]; rfl
theorem aj_101 {h : abH} (H : KM h) : aJ h 101 = 6 := by unfold aJ; rw [gt_101 H]; rfl
theorem gt_102 {h : abH} (H : KM h) : gT h 102 = some (0, 6) := H.1 (102, 0, 6) (by decide)
theorem ai_102 {h : abH} (H : KM h) : aI h 102 = 6 := by unfold aI; rw [gt_102 H]; rfl
theorem aj_102 {h : abH} (H : KM h) : aJ h 102 = 6 := by unfold aJ; rw [gt_102 H]; rfl
theorem gt_103 {h : abH} (H : KM h) : gT h 103 = some (0, 400) := H.1 (103, 0, 400) (by decide)
theorem ai_103 {h : abH} (H : KM h) : aI h 103 = 400 := by unfold aI; rw [gt_103 H]; rfl
theorem aj_103 {h : abH} (H : KM h) : aJ h 103 = 400 := by unfold aJ; rw [gt_103 H]; rfl
theorem gr_65_0 {h : abH} (H : KM h) : gR h 65 0 = .ref 66 := H.2 (65, 0, 66) (by decide)
theorem gr_65_3 {h : abH} (H : KM h) : gR h 65 3 = .ref 67 := H.2 (65, 3, 67) (by decide)
theorem gr_65_5 {h : abH} (H : KM h) : gR h 65 5 = .ref 68 := H.2 (65, 5, 68) (by decide)
theorem gr_65_6 {h : abH} (H : KM h) : gR h 65 6 = .ref 69 := H.2 (65, 6, 69) (by decide)
theorem gr_65_7 {h : abH} (H : KM h) : gR h 65 7 = .ref 70 := H.2 (65, 7, 70) (by decide)
theorem gr_65_8 {h : abH} (H : KM h) : gR h 65 8 = .ref 71 := H.2 (65, 8, 71) (by decide)
theorem gr_65_9 {h : abH} (H : KM h) : gR h 65 9 = .ref 72 := H.2 (65, 9, 72) (by decide)
theorem gr_65_10 {h : abH} (H : KM h) : gR h 65 10 = .ref 73 := H.2 (65, 10, 73) (by decide)
theorem gr_65_11 {h : abH} (H : KM h) : gR h 65 11 = .ref 74 := H.2 (65, 11, 74) (by decide)
theorem gr_65_12 {h : abH} (H : KM h) : gR h 65 12 = .ref 75 := H.2 (65, 12, 75) (by decide)
theorem gr_65_13 {h : abH} (H : KM h) : gR h 65 13 = .ref 76 := H.2 (65, 13, 76) (by decide)
theorem gr_65_14 {h : abH} (H : KM h) : gR h 65 14 = .ref 77 := H.2 (65, 14, 77) (by decide)
theorem gr_65_16 {h : abH} (H : KM h) : gR h 65 16 = .ref 78 := H.2 (65, 16, 78) (by decide)
theorem gr_65_17 {h : abH} (H : KM h) : gR h 65 17 = .ref 79 := H.2 (65, 17, 79) (by decide)
theorem gr_65_18 {h : abH} (H : KM h) : gR h 65 18 = .ref 80 := H.2 (65, 18, 80) (by decide)
theorem gr_65_19 {h : abH} (H : KM h) : gR h 65 19 = .ref 81 := H.2 (65, 19, 81) (by decide)
theorem gr_65_20 {h : abH} (H : KM h) : gR h 65 20 = .ref 82 := H.2 (65, 20, 82) (by decide)
theorem gr_65_21 {h : abH} (H : KM h) : gR h 65 21 = .ref 83 := H.2 (65, 21, 83) (by decide)
theorem gr_65_22 {h : abH} (H : KM h) : gR h 65 22 = .ref 84 := H.2 (65, 22, 84) (by decide)
theorem gr_65_23 {h : abH} (H : KM h) : gR h 65 23 = .ref 85 := H.2 (65, 23, 85) (by decide)
theorem gr_65_24 {h : abH} (H : KM h) : gR h 65 24 = .ref 86 := H.2 (65, 24, 86) (by decide)
theorem gr_65_25 {h : abH} (H : KM h) : gR h 65 25 = .ref 87 := H.2 (65, 25, 87) (by decide)
theorem gr_65_27 {h : abH} (H : KM h) : gR h 65 27 = .ref 88 := H.2 (65, 27, 88) (by decide)
theorem gr_65_28 {h : abH} (H : KM h) : gR h 65 28 = .ref 89 := H.2 (65, 28, 89) (by decide)
theorem gr_65_31 {h : abH} (H : KM h) : gR h 65 31 = .ref 90 := H.2 (65, 31, 90) (by decide)
theorem gr_65_35 {h : abH} (H : KM h) : gR h 65 35 = .ref 91 := H.2 (65, 35, 91) (by decide)
theorem gr_65_40 {h : abH} (H : KM h) : gR h 65 40 = .ref 92 := H.2 (65, 40, 92) (by decide)
theorem gr_65_41 {h : abH} (H : KM h) : gR h 65 41 = .ref 93 := H.2 (65, 41, 93) (by decide)
theorem gr_65_42 {h : abH} (H : KM h) : gR h 65 42 = .ref 94 := H.2 (65, 42, 94) (by decide)
theorem gr_65_43 {h : abH} (H : KM h) : gR h 65 43 = .ref 95 := H.2 (65, 43, 95) (by decide)
theorem gr_65_44 {h : abH} (H : KM h) : gR h 65 44 = .ref 96 := H.2 (65, 44, 96) (by decide)
theorem gr_65_46 {h : abH} (H : KM h) : gR h 65 46 = .ref 97 := H.2 (65, 46, 97) (by decide)
theorem gr_65_47 {h : abH} (H : KM h) : gR h 65 47 = .ref 98 := H.2 (65, 47, 98) (by decide)
theorem gr_65_48 {h : abH} (H : KM h) : gR h 65 48 = .ref 99 := H.2 (65, 48, 99) (by decide)
theorem gr_65_49 {h : abH} (H : KM h) : gR h 65 49 = .ref 100 := H.2 (65, 49, 100) (by decide)
theorem gr_65_50 {h : abH} (H : KM h) : gR h 65 50 = .ref 101 := H.2 (65, 50, 101) (by decide)
theorem gr_65_51 {h : abH} (H : KM h) : gR h 65 51 = .ref 102 := H.2 (65, 51, 102) (by decide)
theorem gr_65_52 {h : abH} (H : KM h) : gR h 65 52 = .ref 103 := H.2 (65, 52, 103) (by decide)
/-! heaps that change -/
theorem gT_pA {h : abH} {o o' : Nat} {f : Nat → Int32} : gT (pA h o f) o' = gT h o' := rfl
theorem gT_pI {h : abH} {o o' k : Nat} {v : Int32} : gT (pI h o k v) o' = gT h o' := rfl
theorem gT_pR {h : abH} {o o' k : Nat} {v : Value} : gT (pR h o k v) o' = gT h o' := rfl
theorem aI_pA {h : abH} {o o' : Nat} {f : Nat → Int32} : aI (pA h o f) o' = aI h o' := rfl
theorem aI_pI {h : abH} {o o' k : Nat} {v : Int32} : aI (pI h o k v) o' = aI h o' := rfl
theorem aI_pR {h : abH} {o o' k : Nat} {v : Value} : aI (pR h o k v) o' = aI h o' := rfl
theorem aJ_pA {h : abH} {o o' : Nat} {f : Nat → Int32} : aJ (pA h o f) o' = aJ h o' := rfl
theorem aJ_pI {h : abH} {o o' k : Nat} {v : Int32} : aJ (pI h o k v) o' = aJ h o' := rfl
theorem aJ_pR {h : abH} {o o' k : Nat} {v : Value} : aJ (pR h o k v) o' = aJ h o' := rfl
theorem aZ_pA {h : abH} {o o' : Nat} {f : Nat → Int32} : aZ (pA h o f) o' = aZ h o' := rfl
theorem aZ_pI {h : abH} {o o' k : Nat} {v : Int32} : aZ (pI h o k v) o' = aZ h o' := rfl
theorem aZ_pR {h : abH} {o o' k : Nat} {v : Value} : aZ (pR h o k v) o' = aZ h o' := rfl
theorem aQ_pA {h : abH} {o o' : Nat} {f : Nat → Int32} : aQ (pA h o f) o' = aQ h o' := rfl
theorem aQ_pI {h : abH} {o o' k : Nat} {v : Int32} : aQ (pI h o k v) o' = aQ h o' := rfl
theorem aQ_pR {h : abH} {o o' k : Nat} {v : Value} : aQ (pR h o k v) o' = aQ h o' := rfl
theorem gR_pA {h : abH} {o o' k' : Nat} {f : Nat → Int32} : gR (pA h o f) o' k' = gR h o' k' := rfl
theorem gR_pI {h : abH} {o o' k k' : Nat} {v : Int32} : gR (pI h o k v) o' k' = gR h o' k' := rfl
theorem gR_pR {h : abH} {o o' k k' : Nat} {v : Value} : gR (pR h o k v) o' k' = if o' = o ∧ k' = k then v else gR h o' k' := by
  rw [pR_R]
  by_cases h1 : o' = o
  · subst h1
    by_cases h2 : k' = k <;> simp [h2]
  · simp [h1]
theorem gI_pA {h : abH} {o o' : Nat} {f : Nat → Int32} : gI (pA h o f) o' = if o' = o then f else gI h o' := rfl
theorem gI_pI {h : abH} {o o' k k' : Nat} {v : Int32} : gI (pI h o k v) o' k' = if o' = o ∧ k' = k then v else gI h o' k' := by
  rw [pI_I]
  by_cases h1 : o' = o
  · subst h1
    by_cases h2 : k' = k
    · subst h2; simp [upd]
    · simp [upd, h2]
  · simp [h1]
theorem gI_pR {h : abH} {o o' k : Nat} {v : Value} : gI (pR h o k v) o' = gI h o' := rfl
theorem isRf_ref {n : Nat} : (isRf (.ref n) = true) = True := by simp [isRf]
theorem aPs_s {v : Value} {S : List Value} : ab_ps (some v) S = v :: S := rfl
theorem aPs_n {S : List Value} : ab_ps none S = S := rfl
theorem KC_pA {h : abH} {o : Nat} {f : Nat → Int32} : KC (pA h o f) = KC h := rfl
theorem KC_pI {h : abH} {o k : Nat} {v : Int32} : KC (pI h o k v) = KC h := rfl
theorem KM_pA {h : abH} {o : Nat} {f : Nat → Int32} : KM (pA h o f) = KM h := rfl
theorem KM_pI {h : abH} {o k : Nat} {v : Int32} : KM (pI h o k v) = KM h := rfl
theorem KC_pR {h : abH} {o k : Nat} {v : Value} (H : KC h) (hn : ∀ e ∈ KCR, ¬ (e.1 = o ∧ e.2.1 = k)) : KC (pR h o k v) := by
  refine ⟨H.1, fun e he => ?_⟩
  rw [gR_pR, if_neg (hn e he)]
  exact H.2 e he
theorem KM_pR {h : abH} {o k : Nat} {v : Value} (H : KM h) (ho : o < 65) : KM (pR h o k v) := by
  refine ⟨H.1, fun e he => ?_⟩
  have hall : ∀ e ∈ KMR, e.1 = 65 := by decide
  rw [gR_pR, if_neg (by rw [hall e he]; omega)]
  exact H.2 e he
/-! numbers, loops -/
def b2i (P : Prop) [Decidable P] : Int32 := if P then nI 1 else nI 0
theorem nI1_0 : (nI 1 = 0) = False := by decide +kernel
theorem nI0_0 : (nI 0 = 0) = True := by decide +kernel
theorem b2i_b {P : Prop} [Decidable P] : b01 (b2i P) = True := by
  unfold b01 b2i
  split
  · exact propext ⟨fun _ => trivial, fun _ => Or.inr rfl⟩
  · exact propext ⟨fun _ => trivial, fun _ => Or.inl rfl⟩
theorem b2i_0 {P : Prop} [Decidable P] : (b2i P = 0) = ¬ P := by
  unfold b2i
  by_cases h : P
  · rw [if_pos h, nI1_0]; simp [h]
  · rw [if_neg h, nI0_0]; simp [h]
theorem b2i_t {P : Prop} [Decidable P] (h : P) : b2i P = nI 1 := if_pos h
theorem b2i_f {P : Prop} [Decidable P] (h : ¬ P) : b2i P = nI 0 := if_neg h
theorem b01_0 : b01 (nI 0) = True := by simp [b01, nI_0]
theorem b01_1 : b01 (nI 1) = True := by unfold b01; simp; right; rfl
theorem inb_nI {j n : Nat} (hj : j < 2 ^ 31) : inb (nI j) n = (j < n) := by
  unfold inb
  rw [nI_clamp hj]
  simp [nI_pos' hj]
/-- a loop: what it comes to is told by its end, each turn leads to the next -/
theorem for_up {F : Nat → Prop} {R : Prop} (N : Nat) (hend : F N = R) (hstep : ∀ k, k < N → F k = F (k + 1)) : ∀ k, k ≤ N → F k = R := by
  intro k hk
  obtain ⟨j, rfl⟩ := Nat.exists_eq_add_of_le hk
  clear hk
  induction j generalizing k with
  | zero => exact hend
  | succ j ih =>
    rw [hstep k (by omega)]
    have e : k + (j + 1) = k + 1 + j := by omega
    rw [e] at hend hstep
    exact ih (k + 1) hend hstep
theorem for_0 {F : Nat → Prop} {R : Prop} (N : Nat) (hend : F N = R) (hstep : ∀ k, k < N → F k = F (k + 1)) : F 0 = R := for_up N hend hstep 0 (Nat.zero_le N)
/-- the same, where some things are left over from turn to turn -/
theorem for_s {σ : Type} {F : Nat → σ → Prop} {R : Prop} (N : Nat) (hend : ∀ s, F N s = R) (hstep : ∀ k, k < N → ∀ s, ∃ s', F k s = F (k + 1) s') : ∀ k, k ≤ N → ∀ s, F k s = R := by
  intro k hk
  obtain ⟨j, rfl⟩ := Nat.exists_eq_add_of_le hk
  clear hk
  induction j generalizing k with
  | zero => exact hend
  | succ j ih =>
    intro s
    obtain ⟨s', e1⟩ := hstep k (by omega) s
    rw [e1]
    have e : k + (j + 1) = k + 1 + j := by omega
    rw [e] at hend hstep
    exact ih (k + 1) hend hstep s'
/-- the number that a number is -/
def ix (x : Int32) : Nat := x.toNatClampNeg
def bn (x : Int32) (n : Nat) : Prop := x = nI (ix x) ∧ ix x < n
theorem lt_nI {a b : Nat} (ha : a < 2 ^ 31) (hb : b < 2 ^ 31) : (nI a < nI b) = (a < b) := propext (nI_ltI ha hb)
theorem eq_nI {a b : Nat} (ha : a < 2 ^ 31) (hb : b < 2 ^ 31) : (nI a = nI b) = (a = b) := propext (nI_eq ha hb)
theorem nn_nI {a : Nat} (ha : a < 2 ^ 31) : (nI a < 0) = False := by simp [nI_pos ha]
