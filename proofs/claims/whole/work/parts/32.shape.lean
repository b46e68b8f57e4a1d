/-! Where each object lies: the same in every run, once it is made. -/
def kFl : List (Nat × Nat) := [(10, 13), (1, 19), (100, 100), (100, 100), (100, 100), (100, 100), (100, 100), (100, 100), (100, 100), (100, 121), (5, 3), (100, 30), (5, 3), (100, 40), (5, 3), (100, 30), (5, 3), (100, 100), (101, 4), (2, 2), (100, 0), (9, 3), (100, 242), (100, 242), (5, 3), (100, 495), (1, 19), (100, 100), (100, 100), (100, 100), (100, 100), (100, 100), (100, 100), (100, 100), (100, 121), (5, 3), (100, 30), (5, 3), (100, 40), (5, 3), (100, 30), (5, 3), (100, 100), (101, 4), (2, 2), (100, 0), (9, 3), (100, 242), (100, 242), (5, 3), (100, 495), (7, 8), (6, 2), (100, 100), (100, 100), (0, 4), (100, 100), (100, 100), (100, 100), (5, 3), (100, 40), (100, 9), (100, 32), (8, 11), (9, 3), (100, 242), (100, 242), (5, 3), (100, 0), (100, 36), (3, 3), (100, 400), (100, 100), (100, 100), (4, 15), (100, 400), (100, 40), (100, 400), (100, 10), (11, 37), (100, 5480), (100, 5480), (100, 1340), (100, 20), (100, 48), (100, 820), (100, 400), (100, 420), (100, 10), (100, 8), (100, 8), (100, 8), (100, 8), (100, 100), (100, 100), (100, 400), (100, 100)]
def kF (a : Nat) : Nat × Nat := kFl.getD a (999, 0)
def rFl : List (List (Option Nat)) := [[some 1, some 26, none, some 51, some 63, some 70, some 74, some 77, none, none, none, some 78, none], [none, none, none, none, some 2, some 3, some 4, some 5, some 6, some 7, some 8, some 9, some 10, some 12, some 14, some 16, some 18, some 19, some 21], [], [], [], [], [], [], [], [], [none, some 11, none], [], [none, some 13, none], [], [none, some 15, none], [], [none, some 17, none], [], [], [none, some 20], [], [some 22, some 23, some 24], [], [], [none, some 25, none], [], [none, none, none, none, some 27, some 28, some 29, some 30, some 31, some 32, some 33, some 34, some 35, some 37, some 39, some 41, some 43, some 44, some 46], [], [], [], [], [], [], [], [], [none, some 36, none], [], [none, some 38, none], [], [none, some 40, none], [], [none, some 42, none], [], [], [none, some 45], [], [some 47, some 48, some 49], [], [], [none, some 50, none], [], [some 52, some 55, some 59, some 61, some 62, none, none, none], [some 53, some 54], [], [], [some 56, some 57, some 58, none], [], [], [], [none, some 60, none], [], [], [], [some 64, some 69, none, none, none, none, none, none, none, none, none], [some 65, some 66, some 67], [], [], [none, some 68, none], [], [], [some 71, some 72, some 73], [], [], [], [none, none, some 75, none, some 76, none, none, none, none, none, none, none, none, none, none], [], [], [], [], [some 80, some 81, some 82, some 83, none, none, none, some 84, some 85, some 86, some 87, some 88, none, none, none, none, none, none, none, none, none, none, none, none, some 89, some 90, some 91, some 92, some 93, some 94, none, none, none, none, none, some 95, some 96], [], [], [], [], [], [], [], [], [], [], [], [], [], [], [], [], []]
def rF (a k : Nat) : Option Nat := (rFl.getD a []).getD k none
def zSl : List (List Int) := [[0, 1, 0, -1], [-1, 0, 1, 0], [-1, 0, 0, -1], [-1, -1, 0, 0], [0, 0, 0, 3, 6, 5, 5, 4, 4, 4, 2, 1, 0, 0, 0]]
def tXl : List (List Int) := [[97, 104, 101, 97, 100, 32, 108, 101, 102, 116, 32, 114, 105, 103, 104, 116, 32, 98, 97, 99, 107, 32, 115, 116, 111, 112, 32, 102, 108, 32, 102, 114, 32, 112, 108, 32, 112, 114, 32, 116, 104, 114, 101, 97, 100, 32, 114, 105, 109, 32, 115, 116, 101, 112, 32, 114, 101, 115, 116, 32, 115, 119, 97, 108, 108, 111, 119, 32, 119, 104, 101, 110, 32, 111, 114, 32, 97, 110, 100, 32, 110, 111, 116, 32], [102, 108], [102, 114], [112, 108], [112, 114], [116, 104, 114, 101, 97, 100], [114, 105, 109], [115, 116, 101, 112], [114, 101, 115, 116], [115, 119, 97, 108, 108, 111, 119], [119, 104, 101, 110], [111, 114], [97, 110, 100], [110, 111, 116], [97, 104, 101, 97, 100], [108, 101, 102, 116], [114, 105, 103, 104, 116], [98, 97, 99, 107], [115, 116, 111, 112]]
/-- kinds and references as they always are -/
def sm_sh (Rf : Nat → Nat → Option Nat) (K : Nat → Nat × Nat) : Prop := (∀ a, a < 97 → K a = kF a) ∧ (∀ a k, a < 97 → a ≠ 18 → a ≠ 43 → a ≠ 19 → k < 37 → (kF a).1 < 12 → sm_ft (kF a).1 k = 1 → Rf a k = rF a k) ∧ (∀ i, i < 5 → K (1000000 + i) = (102, (zSl.getD i []).length)) ∧ (∀ i, i < 19 → K (2000000 + i) = (103, 2) ∧ Rf (2000000 + i) 0 = some (3000000 + i) ∧ K (3000000 + i) = (104, (tXl.getD i []).length)) ∧ K 19 = (2, 2)
/-- the constants' contents -/
def sm_zs (Z : Nat → Nat → Int) : Prop := (∀ i k, i < 5 → k < 15 → Z (1000000 + i) k = (zSl.getD i []).getD k 0) ∧ ∀ i k, i < 19 → k < 90 → Z (3000000 + i) k = (tXl.getD i []).getD k 0
section SHP
variable {Rf : Nat → Nat → Option Nat} {K : Nat → Nat × Nat} {Z : Nat → Nat → Int}
theorem kk_0 (H : sm_sh Rf K) : K 0 = (10, 13) := H.1 0 (by decide)
theorem kk_1 (H : sm_sh Rf K) : K 1 = (1, 19) := H.1 1 (by decide)
theorem kk_2 (H : sm_sh Rf K) : K 2 = (100, 100) := H.1 2 (by decide)
theorem kk_3 (H : sm_sh Rf K) : K 3 = (100, 100) := H.1 3 (by decide)
theorem kk_4 (H : sm_sh Rf K) : K 4 = (100, 100) := H.1 4 (by decide)
theorem kk_5 (H : sm_sh Rf K) : K 5 = (100, 100) := H.1 5 (by decide)
theorem kk_6 (H : sm_sh Rf K) : K 6 = (100, 100) := H.1 6 (by decide)
theorem kk_7 (H : sm_sh Rf K) : K 7 = (100, 100) := H.1 7 (by decide)
theorem kk_8 (H : sm_sh Rf K) : K 8 = (100, 100) := H.1 8 (by decide)
theorem kk_9 (H : sm_sh Rf K) : K 9 = (100, 121) := H.1 9 (by decide)
theorem kk_10 (H : sm_sh Rf K) : K 10 = (5, 3) := H.1 10 (by decide)
theorem kk_11 (H : sm_sh Rf K) : K 11 = (100, 30) := H.1 11 (by decide)
theorem kk_12 (H : sm_sh Rf K) : K 12 = (5, 3) := H.1 12 (by decide)
theorem kk_13 (H : sm_sh Rf K) : K 13 = (100, 40) := H.1 13 (by decide)
theorem kk_14 (H : sm_sh Rf K) : K 14 = (5, 3) := H.1 14 (by decide)
theorem kk_15 (H : sm_sh Rf K) : K 15 = (100, 30) := H.1 15 (by decide)
theorem kk_16 (H : sm_sh Rf K) : K 16 = (5, 3) := H.1 16 (by decide)
theorem kk_17 (H : sm_sh Rf K) : K 17 = (100, 100) := H.1 17 (by decide)
theorem kk_18 (H : sm_sh Rf K) : K 18 = (101, 4) := H.1 18 (by decide)
theorem kk_19 (H : sm_sh Rf K) : K 19 = (2, 2) := H.1 19 (by decide)
theorem kk_20 (H : sm_sh Rf K) : K 20 = (100, 0) := H.1 20 (by decide)
theorem kk_21 (H : sm_sh Rf K) : K 21 = (9, 3) := H.1 21 (by decide)
theorem kk_22 (H : sm_sh Rf K) : K 22 = (100, 242) := H.1 22 (by decide)
theorem kk_23 (H : sm_sh Rf K) : K 23 = (100, 242) := H.1 23 (by decide)
theorem kk_24 (H : sm_sh Rf K) : K 24 = (5, 3) := H.1 24 (by decide)
theorem kk_25 (H : sm_sh Rf K) : K 25 = (100, 495) := H.1 25 (by decide)
theorem kk_26 (H : sm_sh Rf K) : K 26 = (1, 19) := H.1 26 (by decide)
theorem kk_27 (H : sm_sh Rf K) : K 27 = (100, 100) := H.1 27 (by decide)
theorem kk_28 (H : sm_sh Rf K) : K 28 = (100, 100) := H.1 28 (by decide)
theorem kk_29 (H : sm_sh Rf K) : K 29 = (100, 100) := H.1 29 (by decide)
theorem kk_30 (H : sm_sh Rf K) : K 30 = (100, 100) := H.1 30 (by decide)
theorem kk_31 (H : sm_sh Rf K) : K 31 = (100, 100) := H.1 31 (by decide)
theorem kk_32 (H : sm_sh Rf K) : K 32 = (100, 100) := H.1 32 (by decide)
theorem kk_33 (H : sm_sh Rf K) : K 33 = (100, 100) := H.1 33 (by decide)
theorem kk_34 (H : sm_sh Rf K) : K 34 = (100, 121) := H.1 34 (by decide)
theorem kk_35 (H : sm_sh Rf K) : K 35 = (5, 3) := H.1 35 (by decide)
theorem kk_36 (H : sm_sh Rf K) : K 36 = (100, 30) := H.1 36 (by decide)
theorem kk_37 (H : sm_sh Rf K) : K 37 = (5, 3) := H.1 37 (by decide)
theorem kk_38 (H : sm_sh Rf K) : K 38 = (100, 40) := H.1 38 (by decide)
theorem kk_39 (H : sm_sh Rf K) : K 39 = (5, 3) := H.1 39 (by decide)
theorem kk_40 (H : sm_sh Rf K) : K 40 = (100, 30) := H.1 40 (by decide)
theorem kk_41 (H : sm_sh Rf K) : K 41 = (5, 3) := H.1 41 (by decide)
theorem kk_42 (H : sm_sh Rf K) : K 42 = (100, 100) := H.1 42 (by decide)
theorem kk_43 (H : sm_sh Rf K) : K 43 = (101, 4) := H.1 43 (by decide)
theorem kk_44 (H : sm_sh Rf K) : K 44 = (2, 2) := H.1 44 (by decide)
theorem kk_45 (H : sm_sh Rf K) : K 45 = (100, 0) := H.1 45 (by decide)
theorem kk_46 (H : sm_sh Rf K) : K 46 = (9, 3) := H.1 46 (by decide)
theorem kk_47 (H : sm_sh Rf K) : K 47 = (100, 242) := H.1 47 (by decide)
theorem kk_48 (H : sm_sh Rf K) : K 48 = (100, 242) := H.1 48 (by decide)
theorem kk_49 (H : sm_sh Rf K) : K 49 = (5, 3) := H.1 49 (by decide)
theorem kk_50 (H : sm_sh Rf K) : K 50 = (100, 495) := H.1 50 (by decide)
theorem kk_51 (H : sm_sh Rf K) : K 51 = (7, 8) := H.1 51 (by decide)
theorem kk_52 (H : sm_sh Rf K) : K 52 = (6, 2) := H.1 52 (by decide)
theorem kk_53 (H : sm_sh Rf K) : K 53 = (100, 100) := H.1 53 (by decide)
theorem kk_54 (H : sm_sh Rf K) : K 54 = (100, 100) := H.1 54 (by decide)
theorem kk_55 (H : sm_sh Rf K) : K 55 = (0, 4) := H.1 55 (by decide)
theorem kk_56 (H : sm_sh Rf K) : K 56 = (100, 100) := H.1 56 (by decide)
theorem kk_57 (H : sm_sh Rf K) : K 57 = (100, 100) := H.1 57 (by decide)
theorem kk_58 (H : sm_sh Rf K) : K 58 = (100, 100) := H.1 58 (by decide)
theorem kk_59 (H : sm_sh Rf K) : K 59 = (5, 3) := H.1 59 (by decide)
theorem kk_60 (H : sm_sh Rf K) : K 60 = (100, 40) := H.1 60 (by decide)
theorem kk_61 (H : sm_sh Rf K) : K 61 = (100, 9) := H.1 61 (by decide)
theorem kk_62 (H : sm_sh Rf K) : K 62 = (100, 32) := H.1 62 (by decide)
theorem kk_63 (H : sm_sh Rf K) : K 63 = (8, 11) := H.1 63 (by decide)
theorem kk_64 (H : sm_sh Rf K) : K 64 = (9, 3) := H.1 64 (by decide)
theorem kk_65 (H : sm_sh Rf K) : K 65 = (100, 242) := H.1 65 (by decide)
theorem kk_66 (H : sm_sh Rf K) : K 66 = (100, 242) := H.1 66 (by decide)
theorem kk_67 (H : sm_sh Rf K) : K 67 = (5, 3) := H.1 67 (by decide)
theorem kk_68 (H : sm_sh Rf K) : K 68 = (100, 0) := H.1 68 (by decide)
theorem kk_69 (H : sm_sh Rf K) : K 69 = (100, 36) := H.1 69 (by decide)
theorem kk_70 (H : sm_sh Rf K) : K 70 = (3, 3) := H.1 70 (by decide)
theorem kk_71 (H : sm_sh Rf K) : K 71 = (100, 400) := H.1 71 (by decide)
theorem kk_72 (H : sm_sh Rf K) : K 72 = (100, 100) := H.1 72 (by decide)
theorem kk_73 (H : sm_sh Rf K) : K 73 = (100, 100) := H.1 73 (by decide)
theorem kk_74 (H : sm_sh Rf K) : K 74 = (4, 15) := H.1 74 (by decide)
theorem kk_75 (H : sm_sh Rf K) : K 75 = (100, 400) := H.1 75 (by decide)
theorem kk_76 (H : sm_sh Rf K) : K 76 = (100, 40) := H.1 76 (by decide)
theorem kk_77 (H : sm_sh Rf K) : K 77 = (100, 400) := H.1 77 (by decide)
theorem kk_78 (H : sm_sh Rf K) : K 78 = (100, 10) := H.1 78 (by decide)
theorem kk_79 (H : sm_sh Rf K) : K 79 = (11, 37) := H.1 79 (by decide)
theorem kk_80 (H : sm_sh Rf K) : K 80 = (100, 5480) := H.1 80 (by decide)
theorem kk_81 (H : sm_sh Rf K) : K 81 = (100, 5480) := H.1 81 (by decide)
theorem kk_82 (H : sm_sh Rf K) : K 82 = (100, 1340) := H.1 82 (by decide)
theorem kk_83 (H : sm_sh Rf K) : K 83 = (100, 20) := H.1 83 (by decide)
theorem kk_84 (H : sm_sh Rf K) : K 84 = (100, 48) := H.1 84 (by decide)
theorem kk_85 (H : sm_sh Rf K) : K 85 = (100, 820) := H.1 85 (by decide)
theorem kk_86 (H : sm_sh Rf K) : K 86 = (100, 400) := H.1 86 (by decide)
theorem kk_87 (H : sm_sh Rf K) : K 87 = (100, 420) := H.1 87 (by decide)
theorem kk_88 (H : sm_sh Rf K) : K 88 = (100, 10) := H.1 88 (by decide)
theorem kk_89 (H : sm_sh Rf K) : K 89 = (100, 8) := H.1 89 (by decide)
theorem kk_90 (H : sm_sh Rf K) : K 90 = (100, 8) := H.1 90 (by decide)
theorem kk_91 (H : sm_sh Rf K) : K 91 = (100, 8) := H.1 91 (by decide)
theorem kk_92 (H : sm_sh Rf K) : K 92 = (100, 8) := H.1 92 (by decide)
theorem kk_93 (H : sm_sh Rf K) : K 93 = (100, 100) := H.1 93 (by decide)
theorem kk_94 (H : sm_sh Rf K) : K 94 = (100, 100) := H.1 94 (by decide)
theorem kk_95 (H : sm_sh Rf K) : K 95 = (100, 400) := H.1 95 (by decide)
theorem kk_96 (H : sm_sh Rf K) : K 96 = (100, 100) := H.1 96 (by decide)
theorem ks_0 (H : sm_sh Rf K) : K 1000000 = (102, 4) := H.2.2.1 0 (by decide)
theorem ks_1 (H : sm_sh Rf K) : K 1000001 = (102, 4) := H.2.2.1 1 (by decide)
theorem ks_2 (H : sm_sh Rf K) : K 1000002 = (102, 4) := H.2.2.1 2 (by decide)
theorem ks_3 (H : sm_sh Rf K) : K 1000003 = (102, 4) := H.2.2.1 3 (by decide)
theorem ks_4 (H : sm_sh Rf K) : K 1000004 = (102, 15) := H.2.2.1 4 (by decide)
theorem kt_0 (H : sm_sh Rf K) : K 2000000 = (103, 2) := (H.2.2.2.1 0 (by decide)).1
theorem kb_0 (H : sm_sh Rf K) : K 3000000 = (104, 84) := (H.2.2.2.1 0 (by decide)).2.2
theorem rt_0 (H : sm_sh Rf K) : Rf 2000000 0 = some 3000000 := (H.2.2.2.1 0 (by decide)).2.1
theorem kt_1 (H : sm_sh Rf K) : K 2000001 = (103, 2) := (H.2.2.2.1 1 (by decide)).1
theorem kb_1 (H : sm_sh Rf K) : K 3000001 = (104, 2) := (H.2.2.2.1 1 (by decide)).2.2
theorem rt_1 (H : sm_sh Rf K) : Rf 2000001 0 = some 3000001 := (H.2.2.2.1 1 (by decide)).2.1
theorem kt_2 (H : sm_sh Rf K) : K 2000002 = (103, 2) := (H.2.2.2.1 2 (by decide)).1
theorem kb_2 (H : sm_sh Rf K) : K 3000002 = (104, 2) := (H.2.2.2.1 2 (by decide)).2.2
theorem rt_2 (H : sm_sh Rf K) : Rf 2000002 0 = some 3000002 := (H.2.2.2.1 2 (by decide)).2.1
theorem kt_3 (H : sm_sh Rf K) : K 2000003 = (103, 2) := (H.2.2.2.1 3 (by decide)).1
theorem kb_3 (H : sm_sh Rf K) : K 3000003 = (104, 2) := (H.2.2.2.1 3 (by decide)).2.2
theorem rt_3 (H : sm_sh Rf K) : Rf 2000003 0 = some 3000003 := (H.2.2.2.1 3 (by decide)).2.1
theorem kt_4 (H : sm_sh Rf K) : K 2000004 = (103, 2) := (H.2.2.2.1 4 (by decide)).1
theorem kb_4 (H : sm_sh Rf K) : K 3000004 = (104, 2) := (H.2.2.2.1 4 (by decide)).2.2
theorem rt_4 (H : sm_sh Rf K) : Rf 2000004 0 = some 3000004 := (H.2.2.2.1 4 (by decide)).2.1
theorem kt_5 (H : sm_sh Rf K) : K 2000005 = (103, 2) := (H.2.2.2.1 5 (by decide)).1
theorem kb_5 (H : sm_sh Rf K) : K 3000005 = (104, 6) := (H.2.2.2.1 5 (by decide)).2.2
theorem rt_5 (H : sm_sh Rf K) : Rf 2000005 0 = some 3000005 := (H.2.2.2.1 5 (by decide)).2.1
theorem kt_6 (H : sm_sh Rf K) : K 2000006 = (103, 2) := (H.2.2.2.1 6 (by decide)).1
theorem kb_6 (H : sm_sh Rf K) : K 3000006 = (104, 3) := (H.2.2.2.1 6 (by decide)).2.2
theorem rt_6 (H : sm_sh Rf K) : Rf 2000006 0 = some 3000006 := (H.2.2.2.1 6 (by decide)).2.1
theorem kt_7 (H : sm_sh Rf K) : K 2000007 = (103, 2) := (H.2.2.2.1 7 (by decide)).1
theorem kb_7 (H : sm_sh Rf K) : K 3000007 = (104, 4) := (H.2.2.2.1 7 (by decide)).2.2
theorem rt_7 (H : sm_sh Rf K) : Rf 2000007 0 = some 3000007 := (H.2.2.2.1 7 (by decide)).2.1
theorem kt_8 (H : sm_sh Rf K) : K 2000008 = (103, 2) := (H.2.2.2.1 8 (by decide)).1
theorem kb_8 (H : sm_sh Rf K) : K 3000008 = (104, 4) := (H.2.2.2.1 8 (by decide)).2.2
theorem rt_8 (H : sm_sh Rf K) : Rf 2000008 0 = some 3000008 := (H.2.2.2.1 8 (by decide)).2.1
theorem kt_9 (H : sm_sh Rf K) : K 2000009 = (103, 2) := (H.2.2.2.1 9 (by decide)).1
theorem kb_9 (H : sm_sh Rf K) : K 3000009 = (104, 7) := (H.2.2.2.1 9 (by decide)).2.2
theorem rt_9 (H : sm_sh Rf K) : Rf 2000009 0 = some 3000009 := (H.2.2.2.1 9 (by decide)).2.1
theorem kt_10 (H : sm_sh Rf K) : K 2000010 = (103, 2) := (H.2.2.2.1 10 (by decide)).1
theorem kb_10 (H : sm_sh Rf K) : K 3000010 = (104, 4) := (H.2.2.2.1 10 (by decide)).2.2
theorem rt_10 (H : sm_sh Rf K) : Rf 2000010 0 = some 3000010 := (H.2.2.2.1 10 (by decide)).2.1
theorem kt_11 (H : sm_sh Rf K) : K 2000011 = (103, 2) := (H.2.2.2.1 11 (by decide)).1
theorem kb_11 (H : sm_sh Rf K) : K 3000011 = (104, 2) := (H.2.2.2.1 11 (by decide)).2.2
theorem rt_11 (H : sm_sh Rf K) : Rf 2000011 0 = some 3000011 := (H.2.2.2.1 11 (by decide)).2.1
theorem kt_12 (H : sm_sh Rf K) : K 2000012 = (103, 2) := (H.2.2.2.1 12 (by decide)).1
theorem kb_12 (H : sm_sh Rf K) : K 3000012 = (104, 3) := (H.2.2.2.1 12 (by decide)).2.2
theorem rt_12 (H : sm_sh Rf K) : Rf 2000012 0 = some 3000012 := (H.2.2.2.1 12 (by decide)).2.1
theorem kt_13 (H : sm_sh Rf K) : K 2000013 = (103, 2) := (H.2.2.2.1 13 (by decide)).1
theorem kb_13 (H : sm_sh Rf K) : K 3000013 = (104, 3) := (H.2.2.2.1 13 (by decide)).2.2
theorem rt_13 (H : sm_sh Rf K) : Rf 2000013 0 = some 3000013 := (H.2.2.2.1 13 (by decide)).2.1
theorem kt_14 (H : sm_sh Rf K) : K 2000014 = (103, 2) := (H.2.2.2.1 14 (by decide)).1
theorem kb_14 (H : sm_sh Rf K) : K 3000014 = (104, 5) := (H.2.2.2.1 14 (by decide)).2.2
theorem rt_14 (H : sm_sh Rf K) : Rf 2000014 0 = some 3000014 := (H.2.2.2.1 14 (by decide)).2.1
theorem kt_15 (H : sm_sh Rf K) : K 2000015 = (103, 2) := (H.2.2.2.1 15 (by decide)).1
theorem kb_15 (H : sm_sh Rf K) : K 3000015 = (104, 4) := (H.2.2.2.1 15 (by decide)).2.2
theorem rt_15 (H : sm_sh Rf K) : Rf 2000015 0 = some 3000015 := (H.2.2.2.1 15 (by decide)).2.1
theorem kt_16 (H : sm_sh Rf K) : K 2000016 = (103, 2) := (H.2.2.2.1 16 (by decide)).1
theorem kb_16 (H : sm_sh Rf K) : K 3000016 = (104, 5) := (H.2.2.2.1 16 (by decide)).2.2
theorem rt_16 (H : sm_sh Rf K) : Rf 2000016 0 = some 3000016 := (H.2.2.2.1 16 (by decide)).2.1
theorem kt_17 (H : sm_sh Rf K) : K 2000017 = (103, 2) := (H.2.2.2.1 17 (by decide)).1
theorem kb_17 (H : sm_sh Rf K) : K 3000017 = (104, 4) := (H.2.2.2.1 17 (by decide)).2.2
theorem rt_17 (H : sm_sh Rf K) : Rf 2000017 0 = some 3000017 := (H.2.2.2.1 17 (by decide)).2.1
theorem kt_18 (H : sm_sh Rf K) : K 2000018 = (103, 2) := (H.2.2.2.1 18 (by decide)).1
theorem kb_18 (H : sm_sh Rf K) : K 3000018 = (104, 4) := (H.2.2.2.1 18 (by decide)).2.2
theorem rt_18 (H : sm_sh Rf K) : Rf 2000018 0 = some 3000018 := (H.2.2.2.1 18 (by decide)).2.1
theorem rr_0_0 (H : sm_sh Rf K) : Rf 0 0 = some 1 := H.2.1 0 0 (by decide) (by decide) (by decide) (by decide) (by decide) (by decide) (by decide)
theorem rr_0_1 (H : sm_sh Rf K) : Rf 0 1 = some 26 := H.2.1 0 1 (by decide) (by decide) (by decide) (by decide) (by decide) (by decide) (by decide)
theorem rr_0_3 (H : sm_sh Rf K) : Rf 0 3 = some 51 := H.2.1 0 3 (by decide) (by decide) (by decide) (by decide) (by decide) (by decide) (by decide)
theorem rr_0_4 (H : sm_sh Rf K) : Rf 0 4 = some 63 := H.2.1 0 4 (by decide) (by decide) (by decide) (by decide) (by decide) (by decide) (by decide)
theorem rr_0_5 (H : sm_sh Rf K) : Rf 0 5 = some 70 := H.2.1 0 5 (by decide) (by decide) (by decide) (by decide) (by decide) (by decide) (by decide)
theorem rr_0_6 (H : sm_sh Rf K) : Rf 0 6 = some 74 := H.2.1 0 6 (by decide) (by decide) (by decide) (by decide) (by decide) (by decide) (by decide)
theorem rr_0_7 (H : sm_sh Rf K) : Rf 0 7 = some 77 := H.2.1 0 7 (by decide) (by decide) (by decide) (by decide) (by decide) (by decide) (by decide)
theorem rr_0_11 (H : sm_sh Rf K) : Rf 0 11 = some 78 := H.2.1 0 11 (by decide) (by decide) (by decide) (by decide) (by decide) (by decide) (by decide)
theorem rr_1_4 (H : sm_sh Rf K) : Rf 1 4 = some 2 := H.2.1 1 4 (by decide) (by decide) (by decide) (by decide) (by decide) (by decide) (by decide)
theorem rr_1_5 (H : sm_sh Rf K) : Rf 1 5 = some 3 := H.2.1 1 5 (by decide) (by decide) (by decide) (by decide) (by decide) (by decide) (by decide)
theorem rr_1_6 (H : sm_sh Rf K) : Rf 1 6 = some 4 := H.2.1 1 6 (by decide) (by decide) (by decide) (by decide) (by decide) (by decide) (by decide)
theorem rr_1_7 (H : sm_sh Rf K) : Rf 1 7 = some 5 := H.2.1 1 7 (by decide) (by decide) (by decide) (by decide) (by decide) (by decide) (by decide)
theorem rr_1_8 (H : sm_sh Rf K) : Rf 1 8 = some 6 := H.2.1 1 8 (by decide) (by decide) (by decide) (by decide) (by decide) (by decide) (by decide)
theorem rr_1_9 (H : sm_sh Rf K) : Rf 1 9 = some 7 := H.2.1 1 9 (by decide) (by decide) (by decide) (by decide) (by decide) (by decide) (by decide)
theorem rr_1_10 (H : sm_sh Rf K) : Rf 1 10 = some 8 := H.2.1 1 10 (by decide) (by decide) (by decide) (by decide) (by decide) (by decide) (by decide)
theorem rr_1_11 (H : sm_sh Rf K) : Rf 1 11 = some 9 := H.2.1 1 11 (by decide) (by decide) (by decide) (by decide) (by decide) (by decide) (by decide)
theorem rr_1_12 (H : sm_sh Rf K) : Rf 1 12 = some 10 := H.2.1 1 12 (by decide) (by decide) (by decide) (by decide) (by decide) (by decide) (by decide)
theorem rr_1_13 (H : sm_sh Rf K) : Rf 1 13 = some 12 := H.2.1 1 13 (by decide) (by decide) (by decide) (by decide) (by decide) (by decide) (by decide)
theorem rr_1_14 (H : sm_sh Rf K) : Rf 1 14 = some 14 := H.2.1 1 14 (by decide) (by decide) (by decide) (by decide) (by decide) (by decide) (by decide)
theorem rr_1_15 (H : sm_sh Rf K) : Rf 1 15 = some 16 := H.2.1 1 15 (by decide) (by decide) (by decide) (by decide) (by decide) (by decide) (by decide)
theorem rr_1_16 (H : sm_sh Rf K) : Rf 1 16 = some 18 := H.2.1 1 16 (by decide) (by decide) (by decide) (by decide) (by decide) (by decide) (by decide)
theorem rr_1_17 (H : sm_sh Rf K) : Rf 1 17 = some 19 := H.2.1 1 17 (by decide) (by decide) (by decide) (by decide) (by decide) (by decide) (by decide)
theorem rr_1_18 (H : sm_sh Rf K) : Rf 1 18 = some 21 := H.2.1 1 18 (by decide) (by decide) (by decide) (by decide) (by decide) (by decide) (by decide)
theorem rr_10_1 (H : sm_sh Rf K) : Rf 10 1 = some 11 := H.2.1 10 1 (by decide) (by decide) (by decide) (by decide) (by decide) (by decide) (by decide)
theorem rr_12_1 (H : sm_sh Rf K) : Rf 12 1 = some 13 := H.2.1 12 1 (by decide) (by decide) (by decide) (by decide) (by decide) (by decide) (by decide)
theorem rr_14_1 (H : sm_sh Rf K) : Rf 14 1 = some 15 := H.2.1 14 1 (by decide) (by decide) (by decide) (by decide) (by decide) (by decide) (by decide)
theorem rr_16_1 (H : sm_sh Rf K) : Rf 16 1 = some 17 := H.2.1 16 1 (by decide) (by decide) (by decide) (by decide) (by decide) (by decide) (by decide)
theorem rr_21_0 (H : sm_sh Rf K) : Rf 21 0 = some 22 := H.2.1 21 0 (by decide) (by decide) (by decide) (by decide) (by decide) (by decide) (by decide)
theorem rr_21_1 (H : sm_sh Rf K) : Rf 21 1 = some 23 := H.2.1 21 1 (by decide) (by decide) (by decide) (by decide) (by decide) (by decide) (by decide)
theorem rr_21_2 (H : sm_sh Rf K) : Rf 21 2 = some 24 := H.2.1 21 2 (by decide) (by decide) (by decide) (by decide) (by decide) (by decide) (by decide)
theorem rr_24_1 (H : sm_sh Rf K) : Rf 24 1 = some 25 := H.2.1 24 1 (by decide) (by decide) (by decide) (by decide) (by decide) (by decide) (by decide)
theorem rr_26_4 (H : sm_sh Rf K) : Rf 26 4 = some 27 := H.2.1 26 4 (by decide) (by decide) (by decide) (by decide) (by decide) (by decide) (by decide)
theorem rr_26_5 (H : sm_sh Rf K) : Rf 26 5 = some 28 := H.2.1 26 5 (by decide) (by decide) (by decide) (by decide) (by decide) (by decide) (by decide)
theorem rr_26_6 (H : sm_sh Rf K) : Rf 26 6 = some 29 := H.2.1 26 6 (by decide) (by decide) (by decide) (by decide) (by decide) (by decide) (by decide)
theorem rr_26_7 (H : sm_sh Rf K) : Rf 26 7 = some 30 := H.2.1 26 7 (by decide) (by decide) (by decide) (by decide) (by decide) (by decide) (by decide)
theorem rr_26_8 (H : sm_sh Rf K) : Rf 26 8 = some 31 := H.2.1 26 8 (by decide) (by decide) (by decide) (by decide) (by decide) (by decide) (by decide)
theorem rr_26_9 (H : sm_sh Rf K) : Rf 26 9 = some 32 := H.2.1 26 9 (by decide) (by decide) (by decide) (by decide) (by decide) (by decide) (by decide)
theorem rr_26_10 (H : sm_sh Rf K) : Rf 26 10 = some 33 := H.2.1 26 10 (by decide) (by decide) (by decide) (by decide) (by decide) (by decide) (by decide)
theorem rr_26_11 (H : sm_sh Rf K) : Rf 26 11 = some 34 := H.2.1 26 11 (by decide) (by decide) (by decide) (by decide) (by decide) (by decide) (by decide)
theorem rr_26_12 (H : sm_sh Rf K) : Rf 26 12 = some 35 := H.2.1 26 12 (by decide) (by decide) (by decide) (by decide) (by decide) (by decide) (by decide)
theorem rr_26_13 (H : sm_sh Rf K) : Rf 26 13 = some 37 := H.2.1 26 13 (by decide) (by decide) (by decide) (by decide) (by decide) (by decide) (by decide)
theorem rr_26_14 (H : sm_sh Rf K) : Rf 26 14 = some 39 := H.2.1 26 14 (by decide) (by decide) (by decide) (by decide) (by decide) (by decide) (by decide)
theorem rr_26_15 (H : sm_sh Rf K) : Rf 26 15 = some 41 := H.2.1 26 15 (by decide) (by decide) (by decide) (by decide) (by decide) (by decide) (by decide)
theorem rr_26_16 (H : sm_sh Rf K) : Rf 26 16 = some 43 := H.2.1 26 16 (by decide) (by decide) (by decide) (by decide) (by decide) (by decide) (by decide)
theorem rr_26_17 (H : sm_sh Rf K) : Rf 26 17 = some 44 := H.2.1 26 17 (by decide) (by decide) (by decide) (by decide) (by decide) (by decide) (by decide)
theorem rr_26_18 (H : sm_sh Rf K) : Rf 26 18 = some 46 := H.2.1 26 18 (by decide) (by decide) (by decide) (by decide) (by decide) (by decide) (by decide)
theorem rr_35_1 (H : sm_sh Rf K) : Rf 35 1 = some 36 := H.2.1 35 1 (by decide) (by decide) (by decide) (by decide) (by decide) (by decide) (by decide)
theorem rr_37_1 (H : sm_sh Rf K) : Rf 37 1 = some 38 := H.2.1 37 1 (by decide) (by decide) (by decide) (by decide) (by decide) (by decide) (by decide)
theorem rr_39_1 (H : sm_sh Rf K) : Rf 39 1 = some 40 := H.2.1 39 1 (by decide) (by decide) (by decide) (by decide) (by decide) (by decide) (by decide)
theorem rr_41_1 (H : sm_sh Rf K) : Rf 41 1 = some 42 := H.2.1 41 1 (by decide) (by decide) (by decide) (by decide) (by decide) (by decide) (by decide)
theorem rr_44_1 (H : sm_sh Rf K) : Rf 44 1 = some 45 := H.2.1 44 1 (by decide) (by decide) (by decide) (by decide) (by decide) (by decide) (by decide)
theorem rr_46_0 (H : sm_sh Rf K) : Rf 46 0 = some 47 := H.2.1 46 0 (by decide) (by decide) (by decide) (by decide) (by decide) (by decide) (by decide)
theorem rr_46_1 (H : sm_sh Rf K) : Rf 46 1 = some 48 := H.2.1 46 1 (by decide) (by decide) (by decide) (by decide) (by decide) (by decide) (by decide)
theorem rr_46_2 (H : sm_sh Rf K) : Rf 46 2 = some 49 := H.2.1 46 2 (by decide) (by decide) (by decide) (by decide) (by decide) (by decide) (by decide)
theorem rr_49_1 (H : sm_sh Rf K) : Rf 49 1 = some 50 := H.2.1 49 1 (by decide) (by decide) (by decide) (by decide) (by decide) (by decide) (by decide)
theorem rr_51_0 (H : sm_sh Rf K) : Rf 51 0 = some 52 := H.2.1 51 0 (by decide) (by decide) (by decide) (by decide) (by decide) (by decide) (by decide)
theorem rr_51_1 (H : sm_sh Rf K) : Rf 51 1 = some 55 := H.2.1 51 1 (by decide) (by decide) (by decide) (by decide) (by decide) (by decide) (by decide)
theorem rr_51_2 (H : sm_sh Rf K) : Rf 51 2 = some 59 := H.2.1 51 2 (by decide) (by decide) (by decide) (by decide) (by decide) (by decide) (by decide)
theorem rr_51_3 (H : sm_sh Rf K) : Rf 51 3 = some 61 := H.2.1 51 3 (by decide) (by decide) (by decide) (by decide) (by decide) (by decide) (by decide)
theorem rr_51_4 (H : sm_sh Rf K) : Rf 51 4 = some 62 := H.2.1 51 4 (by decide) (by decide) (by decide) (by decide) (by decide) (by decide) (by decide)
theorem rr_52_0 (H : sm_sh Rf K) : Rf 52 0 = some 53 := H.2.1 52 0 (by decide) (by decide) (by decide) (by decide) (by decide) (by decide) (by decide)
theorem rr_52_1 (H : sm_sh Rf K) : Rf 52 1 = some 54 := H.2.1 52 1 (by decide) (by decide) (by decide) (by decide) (by decide) (by decide) (by decide)
theorem rr_55_0 (H : sm_sh Rf K) : Rf 55 0 = some 56 := H.2.1 55 0 (by decide) (by decide) (by decide) (by decide) (by decide) (by decide) (by decide)
theorem rr_55_1 (H : sm_sh Rf K) : Rf 55 1 = some 57 := H.2.1 55 1 (by decide) (by decide) (by decide) (by decide) (by decide) (by decide) (by decide)
theorem rr_55_2 (H : sm_sh Rf K) : Rf 55 2 = some 58 := H.2.1 55 2 (by decide) (by decide) (by decide) (by decide) (by decide) (by decide) (by decide)
theorem rr_59_1 (H : sm_sh Rf K) : Rf 59 1 = some 60 := H.2.1 59 1 (by decide) (by decide) (by decide) (by decide) (by decide) (by decide) (by decide)
theorem rr_63_0 (H : sm_sh Rf K) : Rf 63 0 = some 64 := H.2.1 63 0 (by decide) (by decide) (by decide) (by decide) (by decide) (by decide) (by decide)
theorem rr_63_1 (H : sm_sh Rf K) : Rf 63 1 = some 69 := H.2.1 63 1 (by decide) (by decide) (by decide) (by decide) (by decide) (by decide) (by decide)
theorem rr_64_0 (H : sm_sh Rf K) : Rf 64 0 = some 65 := H.2.1 64 0 (by decide) (by decide) (by decide) (by decide) (by decide) (by decide) (by decide)
theorem rr_64_1 (H : sm_sh Rf K) : Rf 64 1 = some 66 := H.2.1 64 1 (by decide) (by decide) (by decide) (by decide) (by decide) (by decide) (by decide)
theorem rr_64_2 (H : sm_sh Rf K) : Rf 64 2 = some 67 := H.2.1 64 2 (by decide) (by decide) (by decide) (by decide) (by decide) (by decide) (by decide)
theorem rr_67_1 (H : sm_sh Rf K) : Rf 67 1 = some 68 := H.2.1 67 1 (by decide) (by decide) (by decide) (by decide) (by decide) (by decide) (by decide)
theorem rr_70_0 (H : sm_sh Rf K) : Rf 70 0 = some 71 := H.2.1 70 0 (by decide) (by decide) (by decide) (by decide) (by decide) (by decide) (by decide)
theorem rr_70_1 (H : sm_sh Rf K) : Rf 70 1 = some 72 := H.2.1 70 1 (by decide) (by decide) (by decide) (by decide) (by decide) (by decide) (by decide)
theorem rr_70_2 (H : sm_sh Rf K) : Rf 70 2 = some 73 := H.2.1 70 2 (by decide) (by decide) (by decide) (by decide) (by decide) (by decide) (by decide)
theorem rr_74_2 (H : sm_sh Rf K) : Rf 74 2 = some 75 := H.2.1 74 2 (by decide) (by decide) (by decide) (by decide) (by decide) (by decide) (by decide)
theorem rr_74_4 (H : sm_sh Rf K) : Rf 74 4 = some 76 := H.2.1 74 4 (by decide) (by decide) (by decide) (by decide) (by decide) (by decide) (by decide)
theorem rr_79_0 (H : sm_sh Rf K) : Rf 79 0 = some 80 := H.2.1 79 0 (by decide) (by decide) (by decide) (by decide) (by decide) (by decide) (by decide)
theorem rr_79_1 (H : sm_sh Rf K) : Rf 79 1 = some 81 := H.2.1 79 1 (by decide) (by decide) (by decide) (by decide) (by decide) (by decide) (by decide)
theorem rr_79_2 (H : sm_sh Rf K) : Rf 79 2 = some 82 := H.2.1 79 2 (by decide) (by decide) (by decide) (by decide) (by decide) (by decide) (by decide)
theorem rr_79_3 (H : sm_sh Rf K) : Rf 79 3 = some 83 := H.2.1 79 3 (by decide) (by decide) (by decide) (by decide) (by decide) (by decide) (by decide)
theorem rr_79_7 (H : sm_sh Rf K) : Rf 79 7 = some 84 := H.2.1 79 7 (by decide) (by decide) (by decide) (by decide) (by decide) (by decide) (by decide)
theorem rr_79_8 (H : sm_sh Rf K) : Rf 79 8 = some 85 := H.2.1 79 8 (by decide) (by decide) (by decide) (by decide) (by decide) (by decide) (by decide)
theorem rr_79_9 (H : sm_sh Rf K) : Rf 79 9 = some 86 := H.2.1 79 9 (by decide) (by decide) (by decide) (by decide) (by decide) (by decide) (by decide)
theorem rr_79_10 (H : sm_sh Rf K) : Rf 79 10 = some 87 := H.2.1 79 10 (by decide) (by decide) (by decide) (by decide) (by decide) (by decide) (by decide)
theorem rr_79_11 (H : sm_sh Rf K) : Rf 79 11 = some 88 := H.2.1 79 11 (by decide) (by decide) (by decide) (by decide) (by decide) (by decide) (by decide)
theorem rr_79_24 (H : sm_sh Rf K) : Rf 79 24 = some 89 := H.2.1 79 24 (by decide) (by decide) (by decide) (by decide) (by decide) (by decide) (by decide)
theorem rr_79_25 (H : sm_sh Rf K) : Rf 79 25 = some 90 := H.2.1 79 25 (by decide) (by decide) (by decide) (by decide) (by decide) (by decide) (by decide)
theorem rr_79_26 (H : sm_sh Rf K) : Rf 79 26 = some 91 := H.2.1 79 26 (by decide) (by decide) (by decide) (by decide) (by decide) (by decide) (by decide)
theorem rr_79_27 (H : sm_sh Rf K) : Rf 79 27 = some 92 := H.2.1 79 27 (by decide) (by decide) (by decide) (by decide) (by decide) (by decide) (by decide)
theorem rr_79_28 (H : sm_sh Rf K) : Rf 79 28 = some 93 := H.2.1 79 28 (by decide) (by decide) (by decide) (by decide) (by decide) (by decide) (by decide)
theorem rr_79_29 (H : sm_sh Rf K) : Rf 79 29 = some 94 := H.2.1 79 29 (by decide) (by decide) (by decide) (by decide) (by decide) (by decide) (by decide)
theorem rr_79_35 (H : sm_sh Rf K) : Rf 79 35 = some 95 := H.2.1 79 35 (by decide) (by decide) (by decide) (by decide) (by decide) (by decide) (by decide)
theorem rr_79_36 (H : sm_sh Rf K) : Rf 79 36 = some 96 := H.2.1 79 36 (by decide) (by decide) (by decide) (by decide) (by decide) (by decide) (by decide)
theorem zs_0_0 (H : sm_zs Z) : Z 1000000 0 = 0 := H.1 0 0 (by decide) (by decide)
theorem zs_0_1 (H : sm_zs Z) : Z 1000000 1 = 1 := H.1 0 1 (by decide) (by decide)
theorem zs_0_2 (H : sm_zs Z) : Z 1000000 2 = 0 := H.1 0 2 (by decide) (by decide)
theorem zs_0_3 (H : sm_zs Z) : Z 1000000 3 = -1 := H.1 0 3 (by decide) (by decide)
theorem zs_1_0 (H : sm_zs Z) : Z 1000001 0 = -1 := H.1 1 0 (by decide) (by decide)
theorem zs_1_1 (H : sm_zs Z) : Z 1000001 1 = 0 := H.1 1 1 (by decide) (by decide)
theorem zs_1_2 (H : sm_zs Z) : Z 1000001 2 = 1 := H.1 1 2 (by decide) (by decide)
theorem zs_1_3 (H : sm_zs Z) : Z 1000001 3 = 0 := H.1 1 3 (by decide) (by decide)
theorem zs_2_0 (H : sm_zs Z) : Z 1000002 0 = -1 := H.1 2 0 (by decide) (by decide)
theorem zs_2_1 (H : sm_zs Z) : Z 1000002 1 = 0 := H.1 2 1 (by decide) (by decide)
theorem zs_2_2 (H : sm_zs Z) : Z 1000002 2 = 0 := H.1 2 2 (by decide) (by decide)
theorem zs_2_3 (H : sm_zs Z) : Z 1000002 3 = -1 := H.1 2 3 (by decide) (by decide)
theorem zs_3_0 (H : sm_zs Z) : Z 1000003 0 = -1 := H.1 3 0 (by decide) (by decide)
theorem zs_3_1 (H : sm_zs Z) : Z 1000003 1 = -1 := H.1 3 1 (by decide) (by decide)
theorem zs_3_2 (H : sm_zs Z) : Z 1000003 2 = 0 := H.1 3 2 (by decide) (by decide)
theorem zs_3_3 (H : sm_zs Z) : Z 1000003 3 = 0 := H.1 3 3 (by decide) (by decide)
theorem zs_4_0 (H : sm_zs Z) : Z 1000004 0 = 0 := H.1 4 0 (by decide) (by decide)
theorem zs_4_1 (H : sm_zs Z) : Z 1000004 1 = 0 := H.1 4 1 (by decide) (by decide)
theorem zs_4_2 (H : sm_zs Z) : Z 1000004 2 = 0 := H.1 4 2 (by decide) (by decide)
theorem zs_4_3 (H : sm_zs Z) : Z 1000004 3 = 3 := H.1 4 3 (by decide) (by decide)
theorem zs_4_4 (H : sm_zs Z) : Z 1000004 4 = 6 := H.1 4 4 (by decide) (by decide)
theorem zs_4_5 (H : sm_zs Z) : Z 1000004 5 = 5 := H.1 4 5 (by decide) (by decide)
theorem zs_4_6 (H : sm_zs Z) : Z 1000004 6 = 5 := H.1 4 6 (by decide) (by decide)
theorem zs_4_7 (H : sm_zs Z) : Z 1000004 7 = 4 := H.1 4 7 (by decide) (by decide)
theorem zs_4_8 (H : sm_zs Z) : Z 1000004 8 = 4 := H.1 4 8 (by decide) (by decide)
theorem zs_4_9 (H : sm_zs Z) : Z 1000004 9 = 4 := H.1 4 9 (by decide) (by decide)
theorem zs_4_10 (H : sm_zs Z) : Z 1000004 10 = 2 := H.1 4 10 (by decide) (by decide)
theorem zs_4_11 (H : sm_zs Z) : Z 1000004 11 = 1 := H.1 4 11 (by decide) (by decide)
theorem zs_4_12 (H : sm_zs Z) : Z 1000004 12 = 0 := H.1 4 12 (by decide) (by decide)
theorem zs_4_13 (H : sm_zs Z) : Z 1000004 13 = 0 := H.1 4 13 (by decide) (by decide)
theorem zs_4_14 (H : sm_zs Z) : Z 1000004 14 = 0 := H.1 4 14 (by decide) (by decide)
end SHP
