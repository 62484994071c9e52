/-! which cell is which: the shape that the constructors leave (numbers of cells, kinds, lengths, references that stay) -/
def q_sh0 : List (Nat × Nat) := [(9, 15), (7, 7), (101, 2000), (100, 401), (100, 401), (103, 401), (103, 17), (5, 11), (103, 8), (103, 8), (3, 16), (100, 416), (100, 416), (100, 8), (100, 8), (100, 12), (100, 8), (100, 8), (100, 1), (100, 1), (100, 6), (100, 32), (3, 16), (100, 416), (100, 416), (100, 8), (100, 8), (100, 12), (100, 8), (100, 8), (100, 1), (100, 1), (100, 6), (100, 32), (6, 7), (100, 72), (100, 64), (100, 64), (100, 300), (100, 300), (105, 3), (102, 3), (1, 3), (104, 25), (0, 6), (100, 72), (0, 6), (100, 72), (0, 6), (100, 72), (0, 6), (100, 72), (0, 6), (100, 72), (0, 6), (100, 72), (0, 6), (100, 72), (0, 6), (100, 72), (0, 6), (100, 72), (0, 6), (100, 72), (0, 6), (100, 72), (0, 6), (100, 72), (0, 6), (100, 72), (0, 6), (100, 72), (0, 6), (100, 72), (0, 6), (100, 72), (0, 6), (100, 72), (0, 6), (100, 72), (0, 6), (100, 72), (0, 6), (100, 72), (0, 6), (100, 72), (0, 6), (100, 72), (0, 6), (100, 72), (0, 6), (100, 72), (0, 6), (100, 72), (8, 4), (100, 20), (100, 20), (100, 20), (4, 10), (100, 64), (100, 8), (106, 9), (100, 401), (100, 401), (100, 401), (100, 401), (100, 401), (100, 401), (100, 401), (100, 401), (100, 401), (100, 256), (100, 256), (100, 401), (100, 401), (100, 8), (2, 4), (100, 64), (100, 8), (100, 8), (100, 8), (100, 1), (100, 256), (100, 256), (10, 67), (101, 2000), (101, 2000), (100, 403), (100, 403), (100, 403), (103, 403), (103, 17), (103, 16), (100, 16), (100, 16), (100, 2), (100, 16), (100, 2), (100, 16), (100, 2), (100, 24), (100, 2), (100, 40), (100, 40), (102, 260), (100, 260), (100, 260), (100, 260), (100, 260), (100, 840), (100, 840), (100, 64), (100, 6), (100, 400), (100, 1720), (100, 1720), (100, 8), (100, 8), (100, 43000), (100, 256), (100, 256), (100, 3609), (100, 2048), (100, 256), (100, 8), (100, 8), (100, 20), (100, 20), (102, 3), (100, 5160)]
def q_pl : List (List (Option Nat)) := [[some 1, some 7, none, none, some 34, some 40, some 41, some 42, some 94, some 98, some 116, some 120, some 121, some 122, some 123], [some 2, none, some 3, some 4, some 5, some 6], [], [], [], [], [], [some 8, some 9], [], [], [some 11, some 12, none, none, none, none, none, some 13, some 14, some 15, some 16, some 17, some 18, some 19, some 20, some 21], [], [], [], [], [], [], [], [], [], [], [], [some 23, some 24, none, none, none, none, none, some 25, some 26, some 27, some 28, some 29, some 30, some 31, some 32, some 33], [], [], [], [], [], [], [], [], [], [], [], [some 35, some 36, some 37, some 38, some 39], [], [], [], [], [], [], [], [some 43], [some 44, some 46, some 48, some 50, some 52, some 54, some 56, some 58, some 60, some 62, some 64, some 66, some 68, some 70, some 72, some 74, some 76, some 78, some 80, some 82, some 84, some 86, some 88, some 90, some 92], [some 45], [], [some 47], [], [some 49], [], [some 51], [], [some 53], [], [some 55], [], [some 57], [], [some 59], [], [some 61], [], [some 63], [], [some 65], [], [some 67], [], [some 69], [], [some 71], [], [some 73], [], [some 75], [], [some 77], [], [some 79], [], [some 81], [], [some 83], [], [some 85], [], [some 87], [], [some 89], [], [some 91], [], [some 93], [], [some 95, some 96, some 97], [], [], [], [some 99, some 100, some 101, some 111, some 112, some 113, some 114, some 115], [], [], [some 102, some 103, some 104, some 105, some 106, some 107, some 108, some 109, some 110], [], [], [], [], [], [], [], [], [], [], [], [], [], [], [some 117, some 118, some 119], [], [], [], [], [], [], [], [none, some 125, none, some 126, none, some 127, some 128, some 129, some 130, some 131, none, none, none, none, none, none, none, none, none, none, none, some 132, some 133, some 134, some 135, some 136, some 137, some 138, some 139, some 140, some 141, some 142, some 143, none, some 144, some 145, some 146, some 147, some 148, none, some 149, some 150, some 151, none, some 152, some 153, none, some 154, some 155, some 156, some 157, none, some 158, some 159, some 160, some 161, some 162, some 163, some 164, some 165, none, none, none, some 166, some 167, some 168, some 169], [], [], [], [], [], [], [], [], [], [], [], [], [], [], [], [], [], [], [], [], [], [], [], [], [], [], [], [], [], [], [], [], [], [], [], [], [], [], [], [], [], [], [], [], []]
def q_p0 (r k : Nat) : Option Nat := (((q_pl[r]?).getD [])[k]?).getD none
def q_Stat (h : q_H) : Prop := (∀ r t n, q_sh0[r]? = some (t, n) → q_Sh h r t n) ∧ ∀ r k a, q_p0 r k = some a → q_P h r k = some a
theorem st0 {h : q_H} (hs : q_Stat h) : q_Sh h 0 9 15 := hs.1 _ _ _ rfl
theorem sp0_0 {h : q_H} (hs : q_Stat h) : q_P h 0 0 = some 1 := hs.2 _ _ _ rfl
theorem sp0_1 {h : q_H} (hs : q_Stat h) : q_P h 0 1 = some 7 := hs.2 _ _ _ rfl
theorem sp0_4 {h : q_H} (hs : q_Stat h) : q_P h 0 4 = some 34 := hs.2 _ _ _ rfl
theorem sp0_5 {h : q_H} (hs : q_Stat h) : q_P h 0 5 = some 40 := hs.2 _ _ _ rfl
theorem sp0_6 {h : q_H} (hs : q_Stat h) : q_P h 0 6 = some 41 := hs.2 _ _ _ rfl
theorem sp0_7 {h : q_H} (hs : q_Stat h) : q_P h 0 7 = some 42 := hs.2 _ _ _ rfl
theorem sp0_8 {h : q_H} (hs : q_Stat h) : q_P h 0 8 = some 94 := hs.2 _ _ _ rfl
theorem sp0_9 {h : q_H} (hs : q_Stat h) : q_P h 0 9 = some 98 := hs.2 _ _ _ rfl
theorem sp0_10 {h : q_H} (hs : q_Stat h) : q_P h 0 10 = some 116 := hs.2 _ _ _ rfl
theorem sp0_11 {h : q_H} (hs : q_Stat h) : q_P h 0 11 = some 120 := hs.2 _ _ _ rfl
theorem sp0_12 {h : q_H} (hs : q_Stat h) : q_P h 0 12 = some 121 := hs.2 _ _ _ rfl
theorem sp0_13 {h : q_H} (hs : q_Stat h) : q_P h 0 13 = some 122 := hs.2 _ _ _ rfl
theorem sp0_14 {h : q_H} (hs : q_Stat h) : q_P h 0 14 = some 123 := hs.2 _ _ _ rfl
theorem st1 {h : q_H} (hs : q_Stat h) : q_Sh h 1 7 7 := hs.1 _ _ _ rfl
theorem sp1_0 {h : q_H} (hs : q_Stat h) : q_P h 1 0 = some 2 := hs.2 _ _ _ rfl
theorem sp1_2 {h : q_H} (hs : q_Stat h) : q_P h 1 2 = some 3 := hs.2 _ _ _ rfl
theorem sp1_3 {h : q_H} (hs : q_Stat h) : q_P h 1 3 = some 4 := hs.2 _ _ _ rfl
theorem sp1_4 {h : q_H} (hs : q_Stat h) : q_P h 1 4 = some 5 := hs.2 _ _ _ rfl
theorem sp1_5 {h : q_H} (hs : q_Stat h) : q_P h 1 5 = some 6 := hs.2 _ _ _ rfl
theorem st2 {h : q_H} (hs : q_Stat h) : q_Sh h 2 101 2000 := hs.1 _ _ _ rfl
theorem st3 {h : q_H} (hs : q_Stat h) : q_Sh h 3 100 401 := hs.1 _ _ _ rfl
theorem st4 {h : q_H} (hs : q_Stat h) : q_Sh h 4 100 401 := hs.1 _ _ _ rfl
theorem st5 {h : q_H} (hs : q_Stat h) : q_Sh h 5 103 401 := hs.1 _ _ _ rfl
theorem st6 {h : q_H} (hs : q_Stat h) : q_Sh h 6 103 17 := hs.1 _ _ _ rfl
theorem st7 {h : q_H} (hs : q_Stat h) : q_Sh h 7 5 11 := hs.1 _ _ _ rfl
theorem sp7_0 {h : q_H} (hs : q_Stat h) : q_P h 7 0 = some 8 := hs.2 _ _ _ rfl
theorem sp7_1 {h : q_H} (hs : q_Stat h) : q_P h 7 1 = some 9 := hs.2 _ _ _ rfl
theorem st8 {h : q_H} (hs : q_Stat h) : q_Sh h 8 103 8 := hs.1 _ _ _ rfl
theorem st9 {h : q_H} (hs : q_Stat h) : q_Sh h 9 103 8 := hs.1 _ _ _ rfl
theorem st10 {h : q_H} (hs : q_Stat h) : q_Sh h 10 3 16 := hs.1 _ _ _ rfl
theorem sp10_0 {h : q_H} (hs : q_Stat h) : q_P h 10 0 = some 11 := hs.2 _ _ _ rfl
theorem sp10_1 {h : q_H} (hs : q_Stat h) : q_P h 10 1 = some 12 := hs.2 _ _ _ rfl
theorem sp10_7 {h : q_H} (hs : q_Stat h) : q_P h 10 7 = some 13 := hs.2 _ _ _ rfl
theorem sp10_8 {h : q_H} (hs : q_Stat h) : q_P h 10 8 = some 14 := hs.2 _ _ _ rfl
theorem sp10_9 {h : q_H} (hs : q_Stat h) : q_P h 10 9 = some 15 := hs.2 _ _ _ rfl
theorem sp10_10 {h : q_H} (hs : q_Stat h) : q_P h 10 10 = some 16 := hs.2 _ _ _ rfl
theorem sp10_11 {h : q_H} (hs : q_Stat h) : q_P h 10 11 = some 17 := hs.2 _ _ _ rfl
theorem sp10_12 {h : q_H} (hs : q_Stat h) : q_P h 10 12 = some 18 := hs.2 _ _ _ rfl
theorem sp10_13 {h : q_H} (hs : q_Stat h) : q_P h 10 13 = some 19 := hs.2 _ _ _ rfl
theorem sp10_14 {h : q_H} (hs : q_Stat h) : q_P h 10 14 = some 20 := hs.2 _ _ _ rfl
theorem sp10_15 {h : q_H} (hs : q_Stat h) : q_P h 10 15 = some 21 := hs.2 _ _ _ rfl
theorem st11 {h : q_H} (hs : q_Stat h) : q_Sh h 11 100 416 := hs.1 _ _ _ rfl
theorem st12 {h : q_H} (hs : q_Stat h) : q_Sh h 12 100 416 := hs.1 _ _ _ rfl
theorem st13 {h : q_H} (hs : q_Stat h) : q_Sh h 13 100 8 := hs.1 _ _ _ rfl
theorem st14 {h : q_H} (hs : q_Stat h) : q_Sh h 14 100 8 := hs.1 _ _ _ rfl
theorem st15 {h : q_H} (hs : q_Stat h) : q_Sh h 15 100 12 := hs.1 _ _ _ rfl
theorem st16 {h : q_H} (hs : q_Stat h) : q_Sh h 16 100 8 := hs.1 _ _ _ rfl
theorem st17 {h : q_H} (hs : q_Stat h) : q_Sh h 17 100 8 := hs.1 _ _ _ rfl
theorem st18 {h : q_H} (hs : q_Stat h) : q_Sh h 18 100 1 := hs.1 _ _ _ rfl
theorem st19 {h : q_H} (hs : q_Stat h) : q_Sh h 19 100 1 := hs.1 _ _ _ rfl
theorem st20 {h : q_H} (hs : q_Stat h) : q_Sh h 20 100 6 := hs.1 _ _ _ rfl
theorem st21 {h : q_H} (hs : q_Stat h) : q_Sh h 21 100 32 := hs.1 _ _ _ rfl
theorem st22 {h : q_H} (hs : q_Stat h) : q_Sh h 22 3 16 := hs.1 _ _ _ rfl
theorem sp22_0 {h : q_H} (hs : q_Stat h) : q_P h 22 0 = some 23 := hs.2 _ _ _ rfl
theorem sp22_1 {h : q_H} (hs : q_Stat h) : q_P h 22 1 = some 24 := hs.2 _ _ _ rfl
theorem sp22_7 {h : q_H} (hs : q_Stat h) : q_P h 22 7 = some 25 := hs.2 _ _ _ rfl
theorem sp22_8 {h : q_H} (hs : q_Stat h) : q_P h 22 8 = some 26 := hs.2 _ _ _ rfl
theorem sp22_9 {h : q_H} (hs : q_Stat h) : q_P h 22 9 = some 27 := hs.2 _ _ _ rfl
theorem sp22_10 {h : q_H} (hs : q_Stat h) : q_P h 22 10 = some 28 := hs.2 _ _ _ rfl
theorem sp22_11 {h : q_H} (hs : q_Stat h) : q_P h 22 11 = some 29 := hs.2 _ _ _ rfl
theorem sp22_12 {h : q_H} (hs : q_Stat h) : q_P h 22 12 = some 30 := hs.2 _ _ _ rfl
theorem sp22_13 {h : q_H} (hs : q_Stat h) : q_P h 22 13 = some 31 := hs.2 _ _ _ rfl
theorem sp22_14 {h : q_H} (hs : q_Stat h) : q_P h 22 14 = some 32 := hs.2 _ _ _ rfl
theorem sp22_15 {h : q_H} (hs : q_Stat h) : q_P h 22 15 = some 33 := hs.2 _ _ _ rfl
theorem st23 {h : q_H} (hs : q_Stat h) : q_Sh h 23 100 416 := hs.1 _ _ _ rfl
theorem st24 {h : q_H} (hs : q_Stat h) : q_Sh h 24 100 416 := hs.1 _ _ _ rfl
theorem st25 {h : q_H} (hs : q_Stat h) : q_Sh h 25 100 8 := hs.1 _ _ _ rfl
theorem st26 {h : q_H} (hs : q_Stat h) : q_Sh h 26 100 8 := hs.1 _ _ _ rfl
theorem st27 {h : q_H} (hs : q_Stat h) : q_Sh h 27 100 12 := hs.1 _ _ _ rfl
theorem st28 {h : q_H} (hs : q_Stat h) : q_Sh h 28 100 8 := hs.1 _ _ _ rfl
theorem st29 {h : q_H} (hs : q_Stat h) : q_Sh h 29 100 8 := hs.1 _ _ _ rfl
theorem st30 {h : q_H} (hs : q_Stat h) : q_Sh h 30 100 1 := hs.1 _ _ _ rfl
theorem st31 {h : q_H} (hs : q_Stat h) : q_Sh h 31 100 1 := hs.1 _ _ _ rfl
theorem st32 {h : q_H} (hs : q_Stat h) : q_Sh h 32 100 6 := hs.1 _ _ _ rfl
theorem st33 {h : q_H} (hs : q_Stat h) : q_Sh h 33 100 32 := hs.1 _ _ _ rfl
theorem st34 {h : q_H} (hs : q_Stat h) : q_Sh h 34 6 7 := hs.1 _ _ _ rfl
theorem sp34_0 {h : q_H} (hs : q_Stat h) : q_P h 34 0 = some 35 := hs.2 _ _ _ rfl
theorem sp34_1 {h : q_H} (hs : q_Stat h) : q_P h 34 1 = some 36 := hs.2 _ _ _ rfl
theorem sp34_2 {h : q_H} (hs : q_Stat h) : q_P h 34 2 = some 37 := hs.2 _ _ _ rfl
theorem sp34_3 {h : q_H} (hs : q_Stat h) : q_P h 34 3 = some 38 := hs.2 _ _ _ rfl
theorem sp34_4 {h : q_H} (hs : q_Stat h) : q_P h 34 4 = some 39 := hs.2 _ _ _ rfl
theorem st35 {h : q_H} (hs : q_Stat h) : q_Sh h 35 100 72 := hs.1 _ _ _ rfl
theorem st36 {h : q_H} (hs : q_Stat h) : q_Sh h 36 100 64 := hs.1 _ _ _ rfl
theorem st37 {h : q_H} (hs : q_Stat h) : q_Sh h 37 100 64 := hs.1 _ _ _ rfl
theorem st38 {h : q_H} (hs : q_Stat h) : q_Sh h 38 100 300 := hs.1 _ _ _ rfl
theorem st39 {h : q_H} (hs : q_Stat h) : q_Sh h 39 100 300 := hs.1 _ _ _ rfl
theorem st40 {h : q_H} (hs : q_Stat h) : q_Sh h 40 105 3 := hs.1 _ _ _ rfl
theorem st41 {h : q_H} (hs : q_Stat h) : q_Sh h 41 102 3 := hs.1 _ _ _ rfl
theorem st42 {h : q_H} (hs : q_Stat h) : q_Sh h 42 1 3 := hs.1 _ _ _ rfl
theorem sp42_0 {h : q_H} (hs : q_Stat h) : q_P h 42 0 = some 43 := hs.2 _ _ _ rfl
theorem st43 {h : q_H} (hs : q_Stat h) : q_Sh h 43 104 25 := hs.1 _ _ _ rfl
theorem sp43_0 {h : q_H} (hs : q_Stat h) : q_P h 43 0 = some 44 := hs.2 _ _ _ rfl
theorem sp43_1 {h : q_H} (hs : q_Stat h) : q_P h 43 1 = some 46 := hs.2 _ _ _ rfl
theorem sp43_2 {h : q_H} (hs : q_Stat h) : q_P h 43 2 = some 48 := hs.2 _ _ _ rfl
theorem sp43_3 {h : q_H} (hs : q_Stat h) : q_P h 43 3 = some 50 := hs.2 _ _ _ rfl
theorem sp43_4 {h : q_H} (hs : q_Stat h) : q_P h 43 4 = some 52 := hs.2 _ _ _ rfl
theorem sp43_5 {h : q_H} (hs : q_Stat h) : q_P h 43 5 = some 54 := hs.2 _ _ _ rfl
theorem sp43_6 {h : q_H} (hs : q_Stat h) : q_P h 43 6 = some 56 := hs.2 _ _ _ rfl
theorem sp43_7 {h : q_H} (hs : q_Stat h) : q_P h 43 7 = some 58 := hs.2 _ _ _ rfl
theorem sp43_8 {h : q_H} (hs : q_Stat h) : q_P h 43 8 = some 60 := hs.2 _ _ _ rfl
theorem sp43_9 {h : q_H} (hs : q_Stat h) : q_P h 43 9 = some 62 := hs.2 _ _ _ rfl
theorem sp43_10 {h : q_H} (hs : q_Stat h) : q_P h 43 10 = some 64 := hs.2 _ _ _ rfl
theorem sp43_11 {h : q_H} (hs : q_Stat h) : q_P h 43 11 = some 66 := hs.2 _ _ _ rfl
theorem sp43_12 {h : q_H} (hs : q_Stat h) : q_P h 43 12 = some 68 := hs.2 _ _ _ rfl
theorem sp43_13 {h : q_H} (hs : q_Stat h) : q_P h 43 13 = some 70 := hs.2 _ _ _ rfl
theorem sp43_14 {h : q_H} (hs : q_Stat h) : q_P h 43 14 = some 72 := hs.2 _ _ _ rfl
theorem sp43_15 {h : q_H} (hs : q_Stat h) : q_P h 43 15 = some 74 := hs.2 _ _ _ rfl
theorem sp43_16 {h : q_H} (hs : q_Stat h) : q_P h 43 16 = some 76 := hs.2 _ _ _ rfl
theorem sp43_17 {h : q_H} (hs : q_Stat h) : q_P h 43 17 = some 78 := hs.2 _ _ _ rfl
theorem sp43_18 {h : q_H} (hs : q_Stat h) : q_P h 43 18 = some 80 := hs.2 _ _ _ rfl
theorem sp43_19 {h : q_H} (hs : q_Stat h) : q_P h 43 19 = some 82 := hs.2 _ _ _ rfl
theorem sp43_20 {h : q_H} (hs : q_Stat h) : q_P h 43 20 = some 84 := hs.2 _ _ _ rfl
theorem sp43_21 {h : q_H} (hs : q_Stat h) : q_P h 43 21 = some 86 := hs.2 _ _ _ rfl
theorem sp43_22 {h : q_H} (hs : q_Stat h) : q_P h 43 22 = some 88 := hs.2 _ _ _ rfl
theorem sp43_23 {h : q_H} (hs : q_Stat h) : q_P h 43 23 = some 90 := hs.2 _ _ _ rfl
theorem sp43_24 {h : q_H} (hs : q_Stat h) : q_P h 43 24 = some 92 := hs.2 _ _ _ rfl
theorem st44 {h : q_H} (hs : q_Stat h) : q_Sh h 44 0 6 := hs.1 _ _ _ rfl
theorem sp44_0 {h : q_H} (hs : q_Stat h) : q_P h 44 0 = some 45 := hs.2 _ _ _ rfl
theorem st45 {h : q_H} (hs : q_Stat h) : q_Sh h 45 100 72 := hs.1 _ _ _ rfl
theorem st46 {h : q_H} (hs : q_Stat h) : q_Sh h 46 0 6 := hs.1 _ _ _ rfl
theorem sp46_0 {h : q_H} (hs : q_Stat h) : q_P h 46 0 = some 47 := hs.2 _ _ _ rfl
theorem st47 {h : q_H} (hs : q_Stat h) : q_Sh h 47 100 72 := hs.1 _ _ _ rfl
theorem st48 {h : q_H} (hs : q_Stat h) : q_Sh h 48 0 6 := hs.1 _ _ _ rfl
theorem sp48_0 {h : q_H} (hs : q_Stat h) : q_P h 48 0 = some 49 := hs.2 _ _ _ rfl
theorem st49 {h : q_H} (hs : q_Stat h) : q_Sh h 49 100 72 := hs.1 _ _ _ rfl
theorem st50 {h : q_H} (hs : q_Stat h) : q_Sh h 50 0 6 := hs.1 _ _ _ rfl
theorem sp50_0 {h : q_H} (hs : q_Stat h) : q_P h 50 0 = some 51 := hs.2 _ _ _ rfl
theorem st51 {h : q_H} (hs : q_Stat h) : q_Sh h 51 100 72 := hs.1 _ _ _ rfl
theorem st52 {h : q_H} (hs : q_Stat h) : q_Sh h 52 0 6 := hs.1 _ _ _ rfl
theorem sp52_0 {h : q_H} (hs : q_Stat h) : q_P h 52 0 = some 53 := hs.2 _ _ _ rfl
theorem st53 {h : q_H} (hs : q_Stat h) : q_Sh h 53 100 72 := hs.1 _ _ _ rfl
theorem st54 {h : q_H} (hs : q_Stat h) : q_Sh h 54 0 6 := hs.1 _ _ _ rfl
theorem sp54_0 {h : q_H} (hs : q_Stat h) : q_P h 54 0 = some 55 := hs.2 _ _ _ rfl
theorem st55 {h : q_H} (hs : q_Stat h) : q_Sh h 55 100 72 := hs.1 _ _ _ rfl
theorem st56 {h : q_H} (hs : q_Stat h) : q_Sh h 56 0 6 := hs.1 _ _ _ rfl
theorem sp56_0 {h : q_H} (hs : q_Stat h) : q_P h 56 0 = some 57 := hs.2 _ _ _ rfl
theorem st57 {h : q_H} (hs : q_Stat h) : q_Sh h 57 100 72 := hs.1 _ _ _ rfl
theorem st58 {h : q_H} (hs : q_Stat h) : q_Sh h 58 0 6 := hs.1 _ _ _ rfl
theorem sp58_0 {h : q_H} (hs : q_Stat h) : q_P h 58 0 = some 59 := hs.2 _ _ _ rfl
theorem st59 {h : q_H} (hs : q_Stat h) : q_Sh h 59 100 72 := hs.1 _ _ _ rfl
theorem st60 {h : q_H} (hs : q_Stat h) : q_Sh h 60 0 6 := hs.1 _ _ _ rfl
theorem sp60_0 {h : q_H} (hs : q_Stat h) : q_P h 60 0 = some 61 := hs.2 _ _ _ rfl
theorem st61 {h : q_H} (hs : q_Stat h) : q_Sh h 61 100 72 := hs.1 _ _ _ rfl
theorem st62 {h : q_H} (hs : q_Stat h) : q_Sh h 62 0 6 := hs.1 _ _ _ rfl
theorem sp62_0 {h : q_H} (hs : q_Stat h) : q_P h 62 0 = some 63 := hs.2 _ _ _ rfl
theorem st63 {h : q_H} (hs : q_Stat h) : q_Sh h 63 100 72 := hs.1 _ _ _ rfl
theorem st64 {h : q_H} (hs : q_Stat h) : q_Sh h 64 0 6 := hs.1 _ _ _ rfl
theorem sp64_0 {h : q_H} (hs : q_Stat h) : q_P h 64 0 = some 65 := hs.2 _ _ _ rfl
theorem st65 {h : q_H} (hs : q_Stat h) : q_Sh h 65 100 72 := hs.1 _ _ _ rfl
theorem st66 {h : q_H} (hs : q_Stat h) : q_Sh h 66 0 6 := hs.1 _ _ _ rfl
theorem sp66_0 {h : q_H} (hs : q_Stat h) : q_P h 66 0 = some 67 := hs.2 _ _ _ rfl
theorem st67 {h : q_H} (hs : q_Stat h) : q_Sh h 67 100 72 := hs.1 _ _ _ rfl
theorem st68 {h : q_H} (hs : q_Stat h) : q_Sh h 68 0 6 := hs.1 _ _ _ rfl
theorem sp68_0 {h : q_H} (hs : q_Stat h) : q_P h 68 0 = some 69 := hs.2 _ _ _ rfl
theorem st69 {h : q_H} (hs : q_Stat h) : q_Sh h 69 100 72 := hs.1 _ _ _ rfl
theorem st70 {h : q_H} (hs : q_Stat h) : q_Sh h 70 0 6 := hs.1 _ _ _ rfl
theorem sp70_0 {h : q_H} (hs : q_Stat h) : q_P h 70 0 = some 71 := hs.2 _ _ _ rfl
theorem st71 {h : q_H} (hs : q_Stat h) : q_Sh h 71 100 72 := hs.1 _ _ _ rfl
theorem st72 {h : q_H} (hs : q_Stat h) : q_Sh h 72 0 6 := hs.1 _ _ _ rfl
theorem sp72_0 {h : q_H} (hs : q_Stat h) : q_P h 72 0 = some 73 := hs.2 _ _ _ rfl
theorem st73 {h : q_H} (hs : q_Stat h) : q_Sh h 73 100 72 := hs.1 _ _ _ rfl
theorem st74 {h : q_H} (hs : q_Stat h) : q_Sh h 74 0 6 := hs.1 _ _ _ rfl
theorem sp74_0 {h : q_H} (hs : q_Stat h) : q_P h 74 0 = some 75 := hs.2 _ _ _ rfl
theorem st75 {h : q_H} (hs : q_Stat h) : q_Sh h 75 100 72 := hs.1 _ _ _ rfl
theorem st76 {h : q_H} (hs : q_Stat h) : q_Sh h 76 0 6 := hs.1 _ _ _ rfl
theorem sp76_0 {h : q_H} (hs : q_Stat h) : q_P h 76 0 = some 77 := hs.2 _ _ _ rfl
theorem st77 {h : q_H} (hs : q_Stat h) : q_Sh h 77 100 72 := hs.1 _ _ _ rfl
theorem st78 {h : q_H} (hs : q_Stat h) : q_Sh h 78 0 6 := hs.1 _ _ _ rfl
theorem sp78_0 {h : q_H} (hs : q_Stat h) : q_P h 78 0 = some 79 := hs.2 _ _ _ rfl
theorem st79 {h : q_H} (hs : q_Stat h) : q_Sh h 79 100 72 := hs.1 _ _ _ rfl
theorem st80 {h : q_H} (hs : q_Stat h) : q_Sh h 80 0 6 := hs.1 _ _ _ rfl
theorem sp80_0 {h : q_H} (hs : q_Stat h) : q_P h 80 0 = some 81 := hs.2 _ _ _ rfl
theorem st81 {h : q_H} (hs : q_Stat h) : q_Sh h 81 100 72 := hs.1 _ _ _ rfl
theorem st82 {h : q_H} (hs : q_Stat h) : q_Sh h 82 0 6 := hs.1 _ _ _ rfl
theorem sp82_0 {h : q_H} (hs : q_Stat h) : q_P h 82 0 = some 83 := hs.2 _ _ _ rfl
theorem st83 {h : q_H} (hs : q_Stat h) : q_Sh h 83 100 72 := hs.1 _ _ _ rfl
theorem st84 {h : q_H} (hs : q_Stat h) : q_Sh h 84 0 6 := hs.1 _ _ _ rfl
theorem sp84_0 {h : q_H} (hs : q_Stat h) : q_P h 84 0 = some 85 := hs.2 _ _ _ rfl
theorem st85 {h : q_H} (hs : q_Stat h) : q_Sh h 85 100 72 := hs.1 _ _ _ rfl
theorem st86 {h : q_H} (hs : q_Stat h) : q_Sh h 86 0 6 := hs.1 _ _ _ rfl
theorem sp86_0 {h : q_H} (hs : q_Stat h) : q_P h 86 0 = some 87 := hs.2 _ _ _ rfl
theorem st87 {h : q_H} (hs : q_Stat h) : q_Sh h 87 100 72 := hs.1 _ _ _ rfl
theorem st88 {h : q_H} (hs : q_Stat h) : q_Sh h 88 0 6 := hs.1 _ _ _ rfl
theorem sp88_0 {h : q_H} (hs : q_Stat h) : q_P h 88 0 = some 89 := hs.2 _ _ _ rfl
theorem st89 {h : q_H} (hs : q_Stat h) : q_Sh h 89 100 72 := hs.1 _ _ _ rfl
theorem st90 {h : q_H} (hs : q_Stat h) : q_Sh h 90 0 6 := hs.1 _ _ _ rfl
theorem sp90_0 {h : q_H} (hs : q_Stat h) : q_P h 90 0 = some 91 := hs.2 _ _ _ rfl
theorem st91 {h : q_H} (hs : q_Stat h) : q_Sh h 91 100 72 := hs.1 _ _ _ rfl
theorem st92 {h : q_H} (hs : q_Stat h) : q_Sh h 92 0 6 := hs.1 _ _ _ rfl
theorem sp92_0 {h : q_H} (hs : q_Stat h) : q_P h 92 0 = some 93 := hs.2 _ _ _ rfl
theorem st93 {h : q_H} (hs : q_Stat h) : q_Sh h 93 100 72 := hs.1 _ _ _ rfl
theorem st94 {h : q_H} (hs : q_Stat h) : q_Sh h 94 8 4 := hs.1 _ _ _ rfl
theorem sp94_0 {h : q_H} (hs : q_Stat h) : q_P h 94 0 = some 95 := hs.2 _ _ _ rfl
theorem sp94_1 {h : q_H} (hs : q_Stat h) : q_P h 94 1 = some 96 := hs.2 _ _ _ rfl
theorem sp94_2 {h : q_H} (hs : q_Stat h) : q_P h 94 2 = some 97 := hs.2 _ _ _ rfl
theorem st95 {h : q_H} (hs : q_Stat h) : q_Sh h 95 100 20 := hs.1 _ _ _ rfl
theorem st96 {h : q_H} (hs : q_Stat h) : q_Sh h 96 100 20 := hs.1 _ _ _ rfl
theorem st97 {h : q_H} (hs : q_Stat h) : q_Sh h 97 100 20 := hs.1 _ _ _ rfl
theorem st98 {h : q_H} (hs : q_Stat h) : q_Sh h 98 4 10 := hs.1 _ _ _ rfl
theorem sp98_0 {h : q_H} (hs : q_Stat h) : q_P h 98 0 = some 99 := hs.2 _ _ _ rfl
theorem sp98_1 {h : q_H} (hs : q_Stat h) : q_P h 98 1 = some 100 := hs.2 _ _ _ rfl
theorem sp98_2 {h : q_H} (hs : q_Stat h) : q_P h 98 2 = some 101 := hs.2 _ _ _ rfl
theorem sp98_3 {h : q_H} (hs : q_Stat h) : q_P h 98 3 = some 111 := hs.2 _ _ _ rfl
theorem sp98_4 {h : q_H} (hs : q_Stat h) : q_P h 98 4 = some 112 := hs.2 _ _ _ rfl
theorem sp98_5 {h : q_H} (hs : q_Stat h) : q_P h 98 5 = some 113 := hs.2 _ _ _ rfl
theorem sp98_6 {h : q_H} (hs : q_Stat h) : q_P h 98 6 = some 114 := hs.2 _ _ _ rfl
theorem sp98_7 {h : q_H} (hs : q_Stat h) : q_P h 98 7 = some 115 := hs.2 _ _ _ rfl
theorem st99 {h : q_H} (hs : q_Stat h) : q_Sh h 99 100 64 := hs.1 _ _ _ rfl
theorem st100 {h : q_H} (hs : q_Stat h) : q_Sh h 100 100 8 := hs.1 _ _ _ rfl
theorem st101 {h : q_H} (hs : q_Stat h) : q_Sh h 101 106 9 := hs.1 _ _ _ rfl
theorem sp101_0 {h : q_H} (hs : q_Stat h) : q_P h 101 0 = some 102 := hs.2 _ _ _ rfl
theorem sp101_1 {h : q_H} (hs : q_Stat h) : q_P h 101 1 = some 103 := hs.2 _ _ _ rfl
theorem sp101_2 {h : q_H} (hs : q_Stat h) : q_P h 101 2 = some 104 := hs.2 _ _ _ rfl
theorem sp101_3 {h : q_H} (hs : q_Stat h) : q_P h 101 3 = some 105 := hs.2 _ _ _ rfl
theorem sp101_4 {h : q_H} (hs : q_Stat h) : q_P h 101 4 = some 106 := hs.2 _ _ _ rfl
theorem sp101_5 {h : q_H} (hs : q_Stat h) : q_P h 101 5 = some 107 := hs.2 _ _ _ rfl
theorem sp101_6 {h : q_H} (hs : q_Stat h) : q_P h 101 6 = some 108 := hs.2 _ _ _ rfl
theorem sp101_7 {h : q_H} (hs : q_Stat h) : q_P h 101 7 = some 109 := hs.2 _ _ _ rfl
theorem sp101_8 {h : q_H} (hs : q_Stat h) : q_P h 101 8 = some 110 := hs.2 _ _ _ rfl
theorem st102 {h : q_H} (hs : q_Stat h) : q_Sh h 102 100 401 := hs.1 _ _ _ rfl
theorem st103 {h : q_H} (hs : q_Stat h) : q_Sh h 103 100 401 := hs.1 _ _ _ rfl
theorem st104 {h : q_H} (hs : q_Stat h) : q_Sh h 104 100 401 := hs.1 _ _ _ rfl
theorem st105 {h : q_H} (hs : q_Stat h) : q_Sh h 105 100 401 := hs.1 _ _ _ rfl
theorem st106 {h : q_H} (hs : q_Stat h) : q_Sh h 106 100 401 := hs.1 _ _ _ rfl
theorem st107 {h : q_H} (hs : q_Stat h) : q_Sh h 107 100 401 := hs.1 _ _ _ rfl
theorem st108 {h : q_H} (hs : q_Stat h) : q_Sh h 108 100 401 := hs.1 _ _ _ rfl
theorem st109 {h : q_H} (hs : q_Stat h) : q_Sh h 109 100 401 := hs.1 _ _ _ rfl
theorem st110 {h : q_H} (hs : q_Stat h) : q_Sh h 110 100 401 := hs.1 _ _ _ rfl
theorem st111 {h : q_H} (hs : q_Stat h) : q_Sh h 111 100 256 := hs.1 _ _ _ rfl
theorem st112 {h : q_H} (hs : q_Stat h) : q_Sh h 112 100 256 := hs.1 _ _ _ rfl
theorem st113 {h : q_H} (hs : q_Stat h) : q_Sh h 113 100 401 := hs.1 _ _ _ rfl
theorem st114 {h : q_H} (hs : q_Stat h) : q_Sh h 114 100 401 := hs.1 _ _ _ rfl
theorem st115 {h : q_H} (hs : q_Stat h) : q_Sh h 115 100 8 := hs.1 _ _ _ rfl
theorem st116 {h : q_H} (hs : q_Stat h) : q_Sh h 116 2 4 := hs.1 _ _ _ rfl
theorem sp116_0 {h : q_H} (hs : q_Stat h) : q_P h 116 0 = some 117 := hs.2 _ _ _ rfl
theorem sp116_1 {h : q_H} (hs : q_Stat h) : q_P h 116 1 = some 118 := hs.2 _ _ _ rfl
theorem sp116_2 {h : q_H} (hs : q_Stat h) : q_P h 116 2 = some 119 := hs.2 _ _ _ rfl
theorem st117 {h : q_H} (hs : q_Stat h) : q_Sh h 117 100 64 := hs.1 _ _ _ rfl
theorem st118 {h : q_H} (hs : q_Stat h) : q_Sh h 118 100 8 := hs.1 _ _ _ rfl
theorem st119 {h : q_H} (hs : q_Stat h) : q_Sh h 119 100 8 := hs.1 _ _ _ rfl
theorem st120 {h : q_H} (hs : q_Stat h) : q_Sh h 120 100 8 := hs.1 _ _ _ rfl
theorem st121 {h : q_H} (hs : q_Stat h) : q_Sh h 121 100 1 := hs.1 _ _ _ rfl
theorem st122 {h : q_H} (hs : q_Stat h) : q_Sh h 122 100 256 := hs.1 _ _ _ rfl
theorem st123 {h : q_H} (hs : q_Stat h) : q_Sh h 123 100 256 := hs.1 _ _ _ rfl
theorem st124 {h : q_H} (hs : q_Stat h) : q_Sh h 124 10 67 := hs.1 _ _ _ rfl
theorem sp124_1 {h : q_H} (hs : q_Stat h) : q_P h 124 1 = some 125 := hs.2 _ _ _ rfl
theorem sp124_3 {h : q_H} (hs : q_Stat h) : q_P h 124 3 = some 126 := hs.2 _ _ _ rfl
theorem sp124_5 {h : q_H} (hs : q_Stat h) : q_P h 124 5 = some 127 := hs.2 _ _ _ rfl
theorem sp124_6 {h : q_H} (hs : q_Stat h) : q_P h 124 6 = some 128 := hs.2 _ _ _ rfl
theorem sp124_7 {h : q_H} (hs : q_Stat h) : q_P h 124 7 = some 129 := hs.2 _ _ _ rfl
theorem sp124_8 {h : q_H} (hs : q_Stat h) : q_P h 124 8 = some 130 := hs.2 _ _ _ rfl
theorem sp124_9 {h : q_H} (hs : q_Stat h) : q_P h 124 9 = some 131 := hs.2 _ _ _ rfl
theorem sp124_21 {h : q_H} (hs : q_Stat h) : q_P h 124 21 = some 132 := hs.2 _ _ _ rfl
theorem sp124_22 {h : q_H} (hs : q_Stat h) : q_P h 124 22 = some 133 := hs.2 _ _ _ rfl
theorem sp124_23 {h : q_H} (hs : q_Stat h) : q_P h 124 23 = some 134 := hs.2 _ _ _ rfl
theorem sp124_24 {h : q_H} (hs : q_Stat h) : q_P h 124 24 = some 135 := hs.2 _ _ _ rfl
theorem sp124_25 {h : q_H} (hs : q_Stat h) : q_P h 124 25 = some 136 := hs.2 _ _ _ rfl
theorem sp124_26 {h : q_H} (hs : q_Stat h) : q_P h 124 26 = some 137 := hs.2 _ _ _ rfl
theorem sp124_27 {h : q_H} (hs : q_Stat h) : q_P h 124 27 = some 138 := hs.2 _ _ _ rfl
theorem sp124_28 {h : q_H} (hs : q_Stat h) : q_P h 124 28 = some 139 := hs.2 _ _ _ rfl
theorem sp124_29 {h : q_H} (hs : q_Stat h) : q_P h 124 29 = some 140 := hs.2 _ _ _ rfl
theorem sp124_30 {h : q_H} (hs : q_Stat h) : q_P h 124 30 = some 141 := hs.2 _ _ _ rfl
theorem sp124_31 {h : q_H} (hs : q_Stat h) : q_P h 124 31 = some 142 := hs.2 _ _ _ rfl
theorem sp124_32 {h : q_H} (hs : q_Stat h) : q_P h 124 32 = some 143 := hs.2 _ _ _ rfl
theorem sp124_34 {h : q_H} (hs : q_Stat h) : q_P h 124 34 = some 144 := hs.2 _ _ _ rfl
theorem sp124_35 {h : q_H} (hs : q_Stat h) : q_P h 124 35 = some 145 := hs.2 _ _ _ rfl
theorem sp124_36 {h : q_H} (hs : q_Stat h) : q_P h 124 36 = some 146 := hs.2 _ _ _ rfl
theorem sp124_37 {h : q_H} (hs : q_Stat h) : q_P h 124 37 = some 147 := hs.2 _ _ _ rfl
theorem sp124_38 {h : q_H} (hs : q_Stat h) : q_P h 124 38 = some 148 := hs.2 _ _ _ rfl
theorem sp124_40 {h : q_H} (hs : q_Stat h) : q_P h 124 40 = some 149 := hs.2 _ _ _ rfl
theorem sp124_41 {h : q_H} (hs : q_Stat h) : q_P h 124 41 = some 150 := hs.2 _ _ _ rfl
theorem sp124_42 {h : q_H} (hs : q_Stat h) : q_P h 124 42 = some 151 := hs.2 _ _ _ rfl
theorem sp124_44 {h : q_H} (hs : q_Stat h) : q_P h 124 44 = some 152 := hs.2 _ _ _ rfl
theorem sp124_45 {h : q_H} (hs : q_Stat h) : q_P h 124 45 = some 153 := hs.2 _ _ _ rfl
theorem sp124_47 {h : q_H} (hs : q_Stat h) : q_P h 124 47 = some 154 := hs.2 _ _ _ rfl
theorem sp124_48 {h : q_H} (hs : q_Stat h) : q_P h 124 48 = some 155 := hs.2 _ _ _ rfl
theorem sp124_49 {h : q_H} (hs : q_Stat h) : q_P h 124 49 = some 156 := hs.2 _ _ _ rfl
theorem sp124_50 {h : q_H} (hs : q_Stat h) : q_P h 124 50 = some 157 := hs.2 _ _ _ rfl
theorem sp124_52 {h : q_H} (hs : q_Stat h) : q_P h 124 52 = some 158 := hs.2 _ _ _ rfl
theorem sp124_53 {h : q_H} (hs : q_Stat h) : q_P h 124 53 = some 159 := hs.2 _ _ _ rfl
theorem sp124_54 {h : q_H} (hs : q_Stat h) : q_P h 124 54 = some 160 := hs.2 _ _ _ rfl
theorem sp124_55 {h : q_H} (hs : q_Stat h) : q_P h 124 55 = some 161 := hs.2 _ _ _ rfl
theorem sp124_56 {h : q_H} (hs : q_Stat h) : q_P h 124 56 = some 162 := hs.2 _ _ _ rfl
theorem sp124_57 {h : q_H} (hs : q_Stat h) : q_P h 124 57 = some 163 := hs.2 _ _ _ rfl
theorem sp124_58 {h : q_H} (hs : q_Stat h) : q_P h 124 58 = some 164 := hs.2 _ _ _ rfl
theorem sp124_59 {h : q_H} (hs : q_Stat h) : q_P h 124 59 = some 165 := hs.2 _ _ _ rfl
theorem sp124_63 {h : q_H} (hs : q_Stat h) : q_P h 124 63 = some 166 := hs.2 _ _ _ rfl
theorem sp124_64 {h : q_H} (hs : q_Stat h) : q_P h 124 64 = some 167 := hs.2 _ _ _ rfl
theorem sp124_65 {h : q_H} (hs : q_Stat h) : q_P h 124 65 = some 168 := hs.2 _ _ _ rfl
theorem sp124_66 {h : q_H} (hs : q_Stat h) : q_P h 124 66 = some 169 := hs.2 _ _ _ rfl
theorem st125 {h : q_H} (hs : q_Stat h) : q_Sh h 125 101 2000 := hs.1 _ _ _ rfl
theorem st126 {h : q_H} (hs : q_Stat h) : q_Sh h 126 101 2000 := hs.1 _ _ _ rfl
theorem st127 {h : q_H} (hs : q_Stat h) : q_Sh h 127 100 403 := hs.1 _ _ _ rfl
theorem st128 {h : q_H} (hs : q_Stat h) : q_Sh h 128 100 403 := hs.1 _ _ _ rfl
theorem st129 {h : q_H} (hs : q_Stat h) : q_Sh h 129 100 403 := hs.1 _ _ _ rfl
theorem st130 {h : q_H} (hs : q_Stat h) : q_Sh h 130 103 403 := hs.1 _ _ _ rfl
theorem st131 {h : q_H} (hs : q_Stat h) : q_Sh h 131 103 17 := hs.1 _ _ _ rfl
theorem st132 {h : q_H} (hs : q_Stat h) : q_Sh h 132 103 16 := hs.1 _ _ _ rfl
theorem st133 {h : q_H} (hs : q_Stat h) : q_Sh h 133 100 16 := hs.1 _ _ _ rfl
theorem st134 {h : q_H} (hs : q_Stat h) : q_Sh h 134 100 16 := hs.1 _ _ _ rfl
theorem st135 {h : q_H} (hs : q_Stat h) : q_Sh h 135 100 2 := hs.1 _ _ _ rfl
theorem st136 {h : q_H} (hs : q_Stat h) : q_Sh h 136 100 16 := hs.1 _ _ _ rfl
theorem st137 {h : q_H} (hs : q_Stat h) : q_Sh h 137 100 2 := hs.1 _ _ _ rfl
theorem st138 {h : q_H} (hs : q_Stat h) : q_Sh h 138 100 16 := hs.1 _ _ _ rfl
theorem st139 {h : q_H} (hs : q_Stat h) : q_Sh h 139 100 2 := hs.1 _ _ _ rfl
theorem st140 {h : q_H} (hs : q_Stat h) : q_Sh h 140 100 24 := hs.1 _ _ _ rfl
theorem st141 {h : q_H} (hs : q_Stat h) : q_Sh h 141 100 2 := hs.1 _ _ _ rfl
theorem st142 {h : q_H} (hs : q_Stat h) : q_Sh h 142 100 40 := hs.1 _ _ _ rfl
theorem st143 {h : q_H} (hs : q_Stat h) : q_Sh h 143 100 40 := hs.1 _ _ _ rfl
theorem st144 {h : q_H} (hs : q_Stat h) : q_Sh h 144 102 260 := hs.1 _ _ _ rfl
theorem st145 {h : q_H} (hs : q_Stat h) : q_Sh h 145 100 260 := hs.1 _ _ _ rfl
theorem st146 {h : q_H} (hs : q_Stat h) : q_Sh h 146 100 260 := hs.1 _ _ _ rfl
theorem st147 {h : q_H} (hs : q_Stat h) : q_Sh h 147 100 260 := hs.1 _ _ _ rfl
theorem st148 {h : q_H} (hs : q_Stat h) : q_Sh h 148 100 260 := hs.1 _ _ _ rfl
theorem st149 {h : q_H} (hs : q_Stat h) : q_Sh h 149 100 840 := hs.1 _ _ _ rfl
theorem st150 {h : q_H} (hs : q_Stat h) : q_Sh h 150 100 840 := hs.1 _ _ _ rfl
theorem st151 {h : q_H} (hs : q_Stat h) : q_Sh h 151 100 64 := hs.1 _ _ _ rfl
theorem st152 {h : q_H} (hs : q_Stat h) : q_Sh h 152 100 6 := hs.1 _ _ _ rfl
theorem st153 {h : q_H} (hs : q_Stat h) : q_Sh h 153 100 400 := hs.1 _ _ _ rfl
theorem st154 {h : q_H} (hs : q_Stat h) : q_Sh h 154 100 1720 := hs.1 _ _ _ rfl
theorem st155 {h : q_H} (hs : q_Stat h) : q_Sh h 155 100 1720 := hs.1 _ _ _ rfl
theorem st156 {h : q_H} (hs : q_Stat h) : q_Sh h 156 100 8 := hs.1 _ _ _ rfl
theorem st157 {h : q_H} (hs : q_Stat h) : q_Sh h 157 100 8 := hs.1 _ _ _ rfl
theorem st158 {h : q_H} (hs : q_Stat h) : q_Sh h 158 100 43000 := hs.1 _ _ _ rfl
theorem st159 {h : q_H} (hs : q_Stat h) : q_Sh h 159 100 256 := hs.1 _ _ _ rfl
theorem st160 {h : q_H} (hs : q_Stat h) : q_Sh h 160 100 256 := hs.1 _ _ _ rfl
theorem st161 {h : q_H} (hs : q_Stat h) : q_Sh h 161 100 3609 := hs.1 _ _ _ rfl
theorem st162 {h : q_H} (hs : q_Stat h) : q_Sh h 162 100 2048 := hs.1 _ _ _ rfl
theorem st163 {h : q_H} (hs : q_Stat h) : q_Sh h 163 100 256 := hs.1 _ _ _ rfl
theorem st164 {h : q_H} (hs : q_Stat h) : q_Sh h 164 100 8 := hs.1 _ _ _ rfl
theorem st165 {h : q_H} (hs : q_Stat h) : q_Sh h 165 100 8 := hs.1 _ _ _ rfl
theorem st166 {h : q_H} (hs : q_Stat h) : q_Sh h 166 100 20 := hs.1 _ _ _ rfl
theorem st167 {h : q_H} (hs : q_Stat h) : q_Sh h 167 100 20 := hs.1 _ _ _ rfl
theorem st168 {h : q_H} (hs : q_Stat h) : q_Sh h 168 102 3 := hs.1 _ _ _ rfl
theorem st169 {h : q_H} (hs : q_Stat h) : q_Sh h 169 100 5160 := hs.1 _ _ _ rfl
theorem kc_m8 : Int32.ofInt (-8) = (-8) := by decide +kernel
theorem kc_m2 : Int32.ofInt (-2) = (-2) := by decide +kernel
theorem kc_m1 : Int32.ofInt (-1) = (-1) := by decide +kernel
theorem kc_0 : Int32.ofInt (0) = nI 0 := by decide +kernel
theorem kc_1 : Int32.ofInt (1) = nI 1 := by decide +kernel
theorem kc_2 : Int32.ofInt (2) = nI 2 := by decide +kernel
theorem kc_3 : Int32.ofInt (3) = nI 3 := by decide +kernel
theorem kc_4 : Int32.ofInt (4) = nI 4 := by decide +kernel
theorem kc_5 : Int32.ofInt (5) = nI 5 := by decide +kernel
theorem kc_6 : Int32.ofInt (6) = nI 6 := by decide +kernel
theorem kb_m64 : (Int8.ofInt (-64)).toInt32 = (-64) := by decide +kernel
theorem kb_m2 : (Int8.ofInt (-2)).toInt32 = (-2) := by decide +kernel
theorem kb_6 : (Int8.ofInt (6)).toInt32 = nI 6 := by decide +kernel
theorem kb_7 : (Int8.ofInt (7)).toInt32 = nI 7 := by decide +kernel
theorem kb_8 : (Int8.ofInt (8)).toInt32 = nI 8 := by decide +kernel
theorem kb_9 : (Int8.ofInt (9)).toInt32 = nI 9 := by decide +kernel
theorem kb_10 : (Int8.ofInt (10)).toInt32 = nI 10 := by decide +kernel
theorem kb_11 : (Int8.ofInt (11)).toInt32 = nI 11 := by decide +kernel
theorem kb_12 : (Int8.ofInt (12)).toInt32 = nI 12 := by decide +kernel
theorem kb_13 : (Int8.ofInt (13)).toInt32 = nI 13 := by decide +kernel
theorem kb_14 : (Int8.ofInt (14)).toInt32 = nI 14 := by decide +kernel
theorem kb_15 : (Int8.ofInt (15)).toInt32 = nI 15 := by decide +kernel
theorem kb_16 : (Int8.ofInt (16)).toInt32 = nI 16 := by decide +kernel
theorem kb_17 : (Int8.ofInt (17)).toInt32 = nI 17 := by decide +kernel
theorem kb_20 : (Int8.ofInt (20)).toInt32 = nI 20 := by decide +kernel
theorem kb_23 : (Int8.ofInt (23)).toInt32 = nI 23 := by decide +kernel
theorem kb_24 : (Int8.ofInt (24)).toInt32 = nI 24 := by decide +kernel
theorem kb_25 : (Int8.ofInt (25)).toInt32 = nI 25 := by decide +kernel
theorem kb_28 : (Int8.ofInt (28)).toInt32 = nI 28 := by decide +kernel
theorem kb_29 : (Int8.ofInt (29)).toInt32 = nI 29 := by decide +kernel
theorem kb_30 : (Int8.ofInt (30)).toInt32 = nI 30 := by decide +kernel
theorem kb_31 : (Int8.ofInt (31)).toInt32 = nI 31 := by decide +kernel
theorem kb_32 : (Int8.ofInt (32)).toInt32 = nI 32 := by decide +kernel
theorem kb_36 : (Int8.ofInt (36)).toInt32 = nI 36 := by decide +kernel
theorem kb_40 : (Int8.ofInt (40)).toInt32 = nI 40 := by decide +kernel
theorem kb_41 : (Int8.ofInt (41)).toInt32 = nI 41 := by decide +kernel
theorem kb_42 : (Int8.ofInt (42)).toInt32 = nI 42 := by decide +kernel
theorem kb_43 : (Int8.ofInt (43)).toInt32 = nI 43 := by decide +kernel
theorem kb_45 : (Int8.ofInt (45)).toInt32 = nI 45 := by decide +kernel
theorem kb_47 : (Int8.ofInt (47)).toInt32 = nI 47 := by decide +kernel
theorem kb_48 : (Int8.ofInt (48)).toInt32 = nI 48 := by decide +kernel
theorem kb_57 : (Int8.ofInt (57)).toInt32 = nI 57 := by decide +kernel
theorem kb_59 : (Int8.ofInt (59)).toInt32 = nI 59 := by decide +kernel
theorem kb_60 : (Int8.ofInt (60)).toInt32 = nI 60 := by decide +kernel
theorem kb_61 : (Int8.ofInt (61)).toInt32 = nI 61 := by decide +kernel
theorem kb_64 : (Int8.ofInt (64)).toInt32 = nI 64 := by decide +kernel
theorem kb_72 : (Int8.ofInt (72)).toInt32 = nI 72 := by decide +kernel
theorem kb_97 : (Int8.ofInt (97)).toInt32 = nI 97 := by decide +kernel
theorem kb_99 : (Int8.ofInt (99)).toInt32 = nI 99 := by decide +kernel
theorem kb_100 : (Int8.ofInt (100)).toInt32 = nI 100 := by decide +kernel
theorem kb_101 : (Int8.ofInt (101)).toInt32 = nI 101 := by decide +kernel
theorem kb_102 : (Int8.ofInt (102)).toInt32 = nI 102 := by decide +kernel
theorem kb_103 : (Int8.ofInt (103)).toInt32 = nI 103 := by decide +kernel
theorem kb_104 : (Int8.ofInt (104)).toInt32 = nI 104 := by decide +kernel
theorem kb_105 : (Int8.ofInt (105)).toInt32 = nI 105 := by decide +kernel
theorem kb_107 : (Int8.ofInt (107)).toInt32 = nI 107 := by decide +kernel
theorem kb_108 : (Int8.ofInt (108)).toInt32 = nI 108 := by decide +kernel
theorem kb_109 : (Int8.ofInt (109)).toInt32 = nI 109 := by decide +kernel
theorem kb_110 : (Int8.ofInt (110)).toInt32 = nI 110 := by decide +kernel
theorem kb_111 : (Int8.ofInt (111)).toInt32 = nI 111 := by decide +kernel
theorem kb_114 : (Int8.ofInt (114)).toInt32 = nI 114 := by decide +kernel
theorem kb_115 : (Int8.ofInt (115)).toInt32 = nI 115 := by decide +kernel
theorem kb_116 : (Int8.ofInt (116)).toInt32 = nI 116 := by decide +kernel
theorem kb_117 : (Int8.ofInt (117)).toInt32 = nI 117 := by decide +kernel
theorem kb_118 : (Int8.ofInt (118)).toInt32 = nI 118 := by decide +kernel
theorem kb_119 : (Int8.ofInt (119)).toInt32 = nI 119 := by decide +kernel
theorem kb_122 : (Int8.ofInt (122)).toInt32 = nI 122 := by decide +kernel
theorem ks_128 : (Int16.ofInt (128)).toInt32 = nI 128 := by decide +kernel
theorem ks_130 : (Int16.ofInt (130)).toInt32 = nI 130 := by decide +kernel
theorem ks_136 : (Int16.ofInt (136)).toInt32 = nI 136 := by decide +kernel
theorem ks_200 : (Int16.ofInt (200)).toInt32 = nI 200 := by decide +kernel
theorem ks_201 : (Int16.ofInt (201)).toInt32 = nI 201 := by decide +kernel
theorem ks_210 : (Int16.ofInt (210)).toInt32 = nI 210 := by decide +kernel
theorem ks_255 : (Int16.ofInt (255)).toInt32 = nI 255 := by decide +kernel
theorem ks_256 : (Int16.ofInt (256)).toInt32 = nI 256 := by decide +kernel
theorem ks_257 : (Int16.ofInt (257)).toInt32 = nI 257 := by decide +kernel
theorem ks_258 : (Int16.ofInt (258)).toInt32 = nI 258 := by decide +kernel
theorem ks_259 : (Int16.ofInt (259)).toInt32 = nI 259 := by decide +kernel
theorem ks_260 : (Int16.ofInt (260)).toInt32 = nI 260 := by decide +kernel
theorem ks_261 : (Int16.ofInt (261)).toInt32 = nI 261 := by decide +kernel
theorem ks_262 : (Int16.ofInt (262)).toInt32 = nI 262 := by decide +kernel
theorem ks_263 : (Int16.ofInt (263)).toInt32 = nI 263 := by decide +kernel
theorem ks_264 : (Int16.ofInt (264)).toInt32 = nI 264 := by decide +kernel
theorem ks_265 : (Int16.ofInt (265)).toInt32 = nI 265 := by decide +kernel
theorem ks_266 : (Int16.ofInt (266)).toInt32 = nI 266 := by decide +kernel
theorem ks_267 : (Int16.ofInt (267)).toInt32 = nI 267 := by decide +kernel
theorem ks_272 : (Int16.ofInt (272)).toInt32 = nI 272 := by decide +kernel
theorem ks_300 : (Int16.ofInt (300)).toInt32 = nI 300 := by decide +kernel
theorem ks_400 : (Int16.ofInt (400)).toInt32 = nI 400 := by decide +kernel
theorem ks_401 : (Int16.ofInt (401)).toInt32 = nI 401 := by decide +kernel
theorem ks_403 : (Int16.ofInt (403)).toInt32 = nI 403 := by decide +kernel
theorem ks_416 : (Int16.ofInt (416)).toInt32 = nI 416 := by decide +kernel
theorem ks_420 : (Int16.ofInt (420)).toInt32 = nI 420 := by decide +kernel
theorem ks_840 : (Int16.ofInt (840)).toInt32 = nI 840 := by decide +kernel
theorem ks_999 : (Int16.ofInt (999)).toInt32 = nI 999 := by decide +kernel
theorem ks_1000 : (Int16.ofInt (1000)).toInt32 = nI 1000 := by decide +kernel
theorem ks_1023 : (Int16.ofInt (1023)).toInt32 = nI 1023 := by decide +kernel
theorem ks_1720 : (Int16.ofInt (1720)).toInt32 = nI 1720 := by decide +kernel
theorem ks_2000 : (Int16.ofInt (2000)).toInt32 = nI 2000 := by decide +kernel
theorem ks_2048 : (Int16.ofInt (2048)).toInt32 = nI 2048 := by decide +kernel
theorem ks_3609 : (Int16.ofInt (3609)).toInt32 = nI 3609 := by decide +kernel
theorem ks_5160 : (Int16.ofInt (5160)).toInt32 = nI 5160 := by decide +kernel
theorem ks_9999 : (Int16.ofInt (9999)).toInt32 = nI 9999 := by decide +kernel
theorem ks_10000 : (Int16.ofInt (10000)).toInt32 = nI 10000 := by decide +kernel
