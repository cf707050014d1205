theorem pm61 (X : aX) (pc : Nat) : pg X 61 pc = lk pc (tb61 X) := rfl
theorem e61_0 (X : aX) (la : aLs) (st : List aV) (M : aM) : go X 61 0 la st M = kC X 61 (i_lda 0 1 la st M) := evC ((pm61 X 0).trans rfl) la st M
theorem e61_1 (X : aX) (la : aLs) (st : List aV) (M : aM) : go X 61 1 la st M = kC X 61 (i_oin 4 la st M) := evC ((pm61 X 1).trans rfl) la st M
theorem e61_4 (X : aX) (la : aLs) (st : List aV) (M : aM) : go X 61 4 la st M = kC X 61 (i_lda 0 5 la st M) := evC ((pm61 X 4).trans rfl) la st M
theorem e61_5 (X : aX) (la : aLs) (st : List aV) (M : aM) : go X 61 5 la st M = kC X 61 (i_new 3 8 la st M) := evC ((pm61 X 5).trans rfl) la st M
theorem e61_8 (X : aX) (la : aLs) (st : List aV) (M : aM) : go X 61 8 la st M = kC X 61 (i_dup 9 la st M) := evC ((pm61 X 8).trans rfl) la st M
theorem e61_9 (X : aX) (la : aLs) (st : List aV) (M : aM) : go X 61 9 la st M = kK X 61 25 1 12 4 la st M := evK ((pm61 X 9).trans rfl) la st M
theorem e61_12 (X : aX) (la : aLs) (st : List aV) (M : aM) : go X 61 12 la st M = kC X 61 (i_put 5 0 2 15 la st M) := evC ((pm61 X 12).trans rfl) la st M
theorem e61_15 (X : aX) (la : aLs) (st : List aV) (M : aM) : go X 61 15 la st M = kC X 61 (i_lda 0 16 la st M) := evC ((pm61 X 15).trans rfl) la st M
theorem e61_16 (X : aX) (la : aLs) (st : List aV) (M : aM) : go X 61 16 la st M = kC X 61 (i_new 3 19 la st M) := evC ((pm61 X 16).trans rfl) la st M
theorem e61_19 (X : aX) (la : aLs) (st : List aV) (M : aM) : go X 61 19 la st M = kC X 61 (i_dup 20 la st M) := evC ((pm61 X 19).trans rfl) la st M
theorem e61_20 (X : aX) (la : aLs) (st : List aV) (M : aM) : go X 61 20 la st M = kK X 61 25 1 23 4 la st M := evK ((pm61 X 20).trans rfl) la st M
theorem e61_23 (X : aX) (la : aLs) (st : List aV) (M : aM) : go X 61 23 la st M = kC X 61 (i_put 5 1 2 26 la st M) := evC ((pm61 X 23).trans rfl) la st M
theorem e61_26 (X : aX) (la : aLs) (st : List aV) (M : aM) : go X 61 26 la st M = kC X 61 (i_lda 0 27 la st M) := evC ((pm61 X 26).trans rfl) la st M
theorem e61_27 (X : aX) (la : aLs) (st : List aV) (M : aM) : go X 61 27 la st M = kC X 61 (i_new 3 30 la st M) := evC ((pm61 X 27).trans rfl) la st M
theorem e61_30 (X : aX) (la : aLs) (st : List aV) (M : aM) : go X 61 30 la st M = kC X 61 (i_dup 31 la st M) := evC ((pm61 X 30).trans rfl) la st M
theorem e61_31 (X : aX) (la : aLs) (st : List aV) (M : aM) : go X 61 31 la st M = kK X 61 25 1 34 4 la st M := evK ((pm61 X 31).trans rfl) la st M
theorem e61_34 (X : aX) (la : aLs) (st : List aV) (M : aM) : go X 61 34 la st M = kC X 61 (i_put 5 2 2 37 la st M) := evC ((pm61 X 34).trans rfl) la st M
theorem e61_37 (X : aX) (la : aLs) (st : List aV) (M : aM) : go X 61 37 la st M = kC X 61 (i_lda 0 38 la st M) := evC ((pm61 X 37).trans rfl) la st M
theorem e61_38 (X : aX) (la : aLs) (st : List aV) (M : aM) : go X 61 38 la st M = kC X 61 (i_new 0 41 la st M) := evC ((pm61 X 38).trans rfl) la st M
theorem e61_41 (X : aX) (la : aLs) (st : List aV) (M : aM) : go X 61 41 la st M = kC X 61 (i_dup 42 la st M) := evC ((pm61 X 41).trans rfl) la st M
theorem e61_42 (X : aX) (la : aLs) (st : List aV) (M : aM) : go X 61 42 la st M = kK X 61 0 1 45 1 la st M := evK ((pm61 X 42).trans rfl) la st M
theorem e61_45 (X : aX) (la : aLs) (st : List aV) (M : aM) : go X 61 45 la st M = kC X 61 (i_put 5 3 2 48 la st M) := evC ((pm61 X 45).trans rfl) la st M
theorem e61_48 (X : aX) (la : aLs) (st : List aV) (M : aM) : go X 61 48 la st M = kC X 61 (i_lda 0 49 la st M) := evC ((pm61 X 48).trans rfl) la st M
theorem e61_49 (X : aX) (la : aLs) (st : List aV) (M : aM) : go X 61 49 la st M = kC X 61 (i_ci (nI 4) 50 la st M) := evC ((pm61 X 49).trans rfl) la st M
theorem e61_50 (X : aX) (la : aLs) (st : List aV) (M : aM) : go X 61 50 la st M = kC X 61 (i_nwq 3 53 la st M) := evC ((pm61 X 50).trans rfl) la st M
theorem e61_53 (X : aX) (la : aLs) (st : List aV) (M : aM) : go X 61 53 la st M = kC X 61 (i_put 5 4 2 56 la st M) := evC ((pm61 X 53).trans rfl) la st M
theorem e61_56 (X : aX) (la : aLs) (st : List aV) (M : aM) : go X 61 56 la st M = kC X 61 (i_lda 0 57 la st M) := evC ((pm61 X 56).trans rfl) la st M
theorem e61_57 (X : aX) (la : aLs) (st : List aV) (M : aM) : go X 61 57 la st M = kC X 61 (i_ci (nI 7) 59 la st M) := evC ((pm61 X 57).trans rfl) la st M
theorem e61_59 (X : aX) (la : aLs) (st : List aV) (M : aM) : go X 61 59 la st M = kC X 61 (i_nwa 61 la st M) := evC ((pm61 X 59).trans rfl) la st M
theorem e61_61 (X : aX) (la : aLs) (st : List aV) (M : aM) : go X 61 61 la st M = kC X 61 (i_put 5 5 2 64 la st M) := evC ((pm61 X 61).trans rfl) la st M
theorem e61_64 (X : aX) (la : aLs) (st : List aV) (M : aM) : go X 61 64 la st M = kC X 61 (i_lda 0 65 la st M) := evC ((pm61 X 64).trans rfl) la st M
theorem e61_65 (X : aX) (la : aLs) (st : List aV) (M : aM) : go X 61 65 la st M = kC X 61 (i_ci (nI 0) 66 la st M) := evC ((pm61 X 65).trans rfl) la st M
theorem e61_66 (X : aX) (la : aLs) (st : List aV) (M : aM) : go X 61 66 la st M = kC X 61 (i_put 5 6 1 69 la st M) := evC ((pm61 X 66).trans rfl) la st M
theorem e61_69 (X : aX) (la : aLs) (st : List aV) (M : aM) : go X 61 69 la st M = kC X 61 (i_ci (nI 0) 70 la st M) := evC ((pm61 X 69).trans rfl) la st M
theorem e61_70 (X : aX) (la : aLs) (st : List aV) (M : aM) : go X 61 70 la st M = kC X 61 (i_sti 1 71 la st M) := evC ((pm61 X 70).trans rfl) la st M
theorem e61_71 (X : aX) (la : aLs) (st : List aV) (M : aM) : go X 61 71 la st M = kC X 61 (i_ldi 1 72 la st M) := evC ((pm61 X 71).trans rfl) la st M
theorem e61_72 (X : aX) (la : aLs) (st : List aV) (M : aM) : go X 61 72 la st M = kC X 61 (i_lda 0 73 la st M) := evC ((pm61 X 72).trans rfl) la st M
theorem e61_73 (X : aX) (la : aLs) (st : List aV) (M : aM) : go X 61 73 la st M = kC X 61 (i_get 5 4 76 la st M) := evC ((pm61 X 73).trans rfl) la st M
theorem e61_76 (X : aX) (la : aLs) (st : List aV) (M : aM) : go X 61 76 la st M = kC X 61 (i_aln X 77 la st M) := evC ((pm61 X 76).trans rfl) la st M
theorem e61_77 (X : aX) (la : aLs) (st : List aV) (M : aM) : go X 61 77 la st M = kC X 61 (i_cml 80 99 la st M) := evC ((pm61 X 77).trans rfl) la st M
theorem e61_80 (X : aX) (la : aLs) (st : List aV) (M : aM) : go X 61 80 la st M = kC X 61 (i_lda 0 81 la st M) := evC ((pm61 X 80).trans rfl) la st M
theorem e61_81 (X : aX) (la : aLs) (st : List aV) (M : aM) : go X 61 81 la st M = kC X 61 (i_get 5 4 84 la st M) := evC ((pm61 X 81).trans rfl) la st M
theorem e61_84 (X : aX) (la : aLs) (st : List aV) (M : aM) : go X 61 84 la st M = kC X 61 (i_ldi 1 85 la st M) := evC ((pm61 X 84).trans rfl) la st M
theorem e61_85 (X : aX) (la : aLs) (st : List aV) (M : aM) : go X 61 85 la st M = kC X 61 (i_new 1 88 la st M) := evC ((pm61 X 85).trans rfl) la st M
theorem e61_88 (X : aX) (la : aLs) (st : List aV) (M : aM) : go X 61 88 la st M = kC X 61 (i_dup 89 la st M) := evC ((pm61 X 88).trans rfl) la st M
theorem e61_89 (X : aX) (la : aLs) (st : List aV) (M : aM) : go X 61 89 la st M = kK X 61 9 1 92 2 la st M := evK ((pm61 X 89).trans rfl) la st M
theorem e61_92 (X : aX) (la : aLs) (st : List aV) (M : aM) : go X 61 92 la st M = kC X 61 (i_aas 93 la st M) := evC ((pm61 X 92).trans rfl) la st M
theorem e61_93 (X : aX) (la : aLs) (st : List aV) (M : aM) : go X 61 93 la st M = kC X 61 (i_inc 1 (nI 1) 96 la st M) := evC ((pm61 X 93).trans rfl) la st M
theorem e61_96 (X : aX) (la : aLs) (st : List aV) (M : aM) : go X 61 96 la st M = kC X 61 (i_go 71 la st M) := evC ((pm61 X 96).trans rfl) la st M
theorem e61_99 (X : aX) (la : aLs) (st : List aV) (M : aM) : go X 61 99 la st M = i_vrt st M := evR ((pm61 X 99).trans rfl) la st M
theorem c61 (X : aX) (as : List aV) (M : aM) : cl X 61 as M = if cs as ≤ 2 then go X 61 0 (ent 2 as) [] M else none := rfl
theorem pm62 (X : aX) (pc : Nat) : pg X 62 pc = lk pc (tb62 X) := rfl
theorem e62_0 (X : aX) (la : aLs) (st : List aV) (M : aM) : go X 62 0 la st M = kC X 62 (i_ldi 1 1 la st M) := evC ((pm62 X 0).trans rfl) la st M
theorem e62_1 (X : aX) (la : aLs) (st : List aV) (M : aM) : go X 62 1 la st M = kC X 62 (i_ci (nI 0) 2 la st M) := evC ((pm62 X 1).trans rfl) la st M
theorem e62_2 (X : aX) (la : aLs) (st : List aV) (M : aM) : go X 62 2 la st M = kC X 62 (i_ci (nI 6) 4 la st M) := evC ((pm62 X 2).trans rfl) la st M
theorem e62_4 (X : aX) (la : aLs) (st : List aV) (M : aM) : go X 62 4 la st M = kK X 62 102 3 7 0 la st M := evK ((pm62 X 4).trans rfl) la st M
theorem e62_7 (X : aX) (la : aLs) (st : List aV) (M : aM) : go X 62 7 la st M = kC X 62 (i_ife 20 10 la st M) := evC ((pm62 X 7).trans rfl) la st M
theorem e62_10 (X : aX) (la : aLs) (st : List aV) (M : aM) : go X 62 10 la st M = kC X 62 (i_ldi 2 11 la st M) := evC ((pm62 X 10).trans rfl) la st M
theorem e62_11 (X : aX) (la : aLs) (st : List aV) (M : aM) : go X 62 11 la st M = kC X 62 (i_ci (nI 0) 12 la st M) := evC ((pm62 X 11).trans rfl) la st M
theorem e62_12 (X : aX) (la : aLs) (st : List aV) (M : aM) : go X 62 12 la st M = kC X 62 (i_ci (nI 59) 14 la st M) := evC ((pm62 X 12).trans rfl) la st M
theorem e62_14 (X : aX) (la : aLs) (st : List aV) (M : aM) : go X 62 14 la st M = kK X 62 102 3 17 0 la st M := evK ((pm62 X 14).trans rfl) la st M
theorem e62_17 (X : aX) (la : aLs) (st : List aV) (M : aM) : go X 62 17 la st M = kC X 62 (i_ife 20 26 la st M) := evC ((pm62 X 17).trans rfl) la st M
theorem e62_20 (X : aX) (la : aLs) (st : List aV) (M : aM) : go X 62 20 la st M = kC X 62 (i_lda 0 21 la st M) := evC ((pm62 X 20).trans rfl) la st M
theorem e62_21 (X : aX) (la : aLs) (st : List aV) (M : aM) : go X 62 21 la st M = kC X 62 (i_ci (nI 0) 22 la st M) := evC ((pm62 X 21).trans rfl) la st M
theorem e62_22 (X : aX) (la : aLs) (st : List aV) (M : aM) : go X 62 22 la st M = kK X 62 101 2 25 6 la st M := evK ((pm62 X 22).trans rfl) la st M
theorem e62_25 (X : aX) (la : aLs) (st : List aV) (M : aM) : go X 62 25 la st M = i_irt st M := evR ((pm62 X 25).trans rfl) la st M
theorem e62_26 (X : aX) (la : aLs) (st : List aV) (M : aM) : go X 62 26 la st M = kC X 62 (i_lda 0 27 la st M) := evC ((pm62 X 26).trans rfl) la st M
theorem e62_27 (X : aX) (la : aLs) (st : List aV) (M : aM) : go X 62 27 la st M = kC X 62 (i_get 5 0 30 la st M) := evC ((pm62 X 27).trans rfl) la st M
theorem e62_30 (X : aX) (la : aLs) (st : List aV) (M : aM) : go X 62 30 la st M = kK X 62 28 1 33 4 la st M := evK ((pm62 X 30).trans rfl) la st M
theorem e62_33 (X : aX) (la : aLs) (st : List aV) (M : aM) : go X 62 33 la st M = kC X 62 (i_ife 42 36 la st M) := evC ((pm62 X 33).trans rfl) la st M
theorem e62_36 (X : aX) (la : aLs) (st : List aV) (M : aM) : go X 62 36 la st M = kC X 62 (i_lda 0 37 la st M) := evC ((pm62 X 36).trans rfl) la st M
theorem e62_37 (X : aX) (la : aLs) (st : List aV) (M : aM) : go X 62 37 la st M = kC X 62 (i_ci (nI 1) 38 la st M) := evC ((pm62 X 37).trans rfl) la st M
theorem e62_38 (X : aX) (la : aLs) (st : List aV) (M : aM) : go X 62 38 la st M = kK X 62 101 2 41 6 la st M := evK ((pm62 X 38).trans rfl) la st M
theorem e62_41 (X : aX) (la : aLs) (st : List aV) (M : aM) : go X 62 41 la st M = i_irt st M := evR ((pm62 X 41).trans rfl) la st M
theorem e62_42 (X : aX) (la : aLs) (st : List aV) (M : aM) : go X 62 42 la st M = kC X 62 (i_lda 0 43 la st M) := evC ((pm62 X 42).trans rfl) la st M
theorem e62_43 (X : aX) (la : aLs) (st : List aV) (M : aM) : go X 62 43 la st M = kC X 62 (i_get 5 0 46 la st M) := evC ((pm62 X 43).trans rfl) la st M
theorem e62_46 (X : aX) (la : aLs) (st : List aV) (M : aM) : go X 62 46 la st M = kC X 62 (i_ldi 1 47 la st M) := evC ((pm62 X 46).trans rfl) la st M
theorem e62_47 (X : aX) (la : aLs) (st : List aV) (M : aM) : go X 62 47 la st M = kC X 62 (i_ldi 2 48 la st M) := evC ((pm62 X 47).trans rfl) la st M
theorem e62_48 (X : aX) (la : aLs) (st : List aV) (M : aM) : go X 62 48 la st M = kK X 62 29 3 51 4 la st M := evK ((pm62 X 48).trans rfl) la st M
theorem e62_51 (X : aX) (la : aLs) (st : List aV) (M : aM) : go X 62 51 la st M = i_irt st M := evR ((pm62 X 51).trans rfl) la st M
theorem c62 (X : aX) (as : List aV) (M : aM) : cl X 62 as M = if cs as ≤ 3 then go X 62 0 (ent 3 as) [] M else none := rfl
theorem pm63 (X : aX) (pc : Nat) : pg X 63 pc = lk pc (tb63 X) := rfl
theorem e63_0 (X : aX) (la : aLs) (st : List aV) (M : aM) : go X 63 0 la st M = kC X 63 (i_lda 0 1 la st M) := evC ((pm63 X 0).trans rfl) la st M
theorem e63_1 (X : aX) (la : aLs) (st : List aV) (M : aM) : go X 63 1 la st M = kC X 63 (i_get 5 0 4 la st M) := evC ((pm63 X 1).trans rfl) la st M
theorem e63_4 (X : aX) (la : aLs) (st : List aV) (M : aM) : go X 63 4 la st M = kC X 63 (i_ldi 1 5 la st M) := evC ((pm63 X 4).trans rfl) la st M
theorem e63_5 (X : aX) (la : aLs) (st : List aV) (M : aM) : go X 63 5 la st M = kK X 63 27 2 8 4 la st M := evK ((pm63 X 5).trans rfl) la st M
theorem e63_8 (X : aX) (la : aLs) (st : List aV) (M : aM) : go X 63 8 la st M = kC X 63 (i_ife 21 11 la st M) := evC ((pm63 X 8).trans rfl) la st M
theorem e63_11 (X : aX) (la : aLs) (st : List aV) (M : aM) : go X 63 11 la st M = kC X 63 (i_ldi 2 12 la st M) := evC ((pm63 X 11).trans rfl) la st M
theorem e63_12 (X : aX) (la : aLs) (st : List aV) (M : aM) : go X 63 12 la st M = kC X 63 (i_ci (nI 0) 13 la st M) := evC ((pm63 X 12).trans rfl) la st M
theorem e63_13 (X : aX) (la : aLs) (st : List aV) (M : aM) : go X 63 13 la st M = kC X 63 (i_ci (nI 13) 15 la st M) := evC ((pm63 X 13).trans rfl) la st M
theorem e63_15 (X : aX) (la : aLs) (st : List aV) (M : aM) : go X 63 15 la st M = kK X 63 102 3 18 0 la st M := evK ((pm63 X 15).trans rfl) la st M
theorem e63_18 (X : aX) (la : aLs) (st : List aV) (M : aM) : go X 63 18 la st M = kC X 63 (i_ife 21 27 la st M) := evC ((pm63 X 18).trans rfl) la st M
theorem e63_21 (X : aX) (la : aLs) (st : List aV) (M : aM) : go X 63 21 la st M = kC X 63 (i_lda 0 22 la st M) := evC ((pm63 X 21).trans rfl) la st M
theorem e63_22 (X : aX) (la : aLs) (st : List aV) (M : aM) : go X 63 22 la st M = kC X 63 (i_ci (nI 0) 23 la st M) := evC ((pm63 X 22).trans rfl) la st M
theorem e63_23 (X : aX) (la : aLs) (st : List aV) (M : aM) : go X 63 23 la st M = kK X 63 101 2 26 6 la st M := evK ((pm63 X 23).trans rfl) la st M
theorem e63_26 (X : aX) (la : aLs) (st : List aV) (M : aM) : go X 63 26 la st M = i_irt st M := evR ((pm63 X 26).trans rfl) la st M
theorem e63_27 (X : aX) (la : aLs) (st : List aV) (M : aM) : go X 63 27 la st M = kC X 63 (i_lda 0 28 la st M) := evC ((pm63 X 27).trans rfl) la st M
theorem e63_28 (X : aX) (la : aLs) (st : List aV) (M : aM) : go X 63 28 la st M = kC X 63 (i_get 5 0 31 la st M) := evC ((pm63 X 28).trans rfl) la st M
theorem e63_31 (X : aX) (la : aLs) (st : List aV) (M : aM) : go X 63 31 la st M = kC X 63 (i_ldi 1 32 la st M) := evC ((pm63 X 31).trans rfl) la st M
theorem e63_32 (X : aX) (la : aLs) (st : List aV) (M : aM) : go X 63 32 la st M = kC X 63 (i_ldi 2 33 la st M) := evC ((pm63 X 32).trans rfl) la st M
theorem e63_33 (X : aX) (la : aLs) (st : List aV) (M : aM) : go X 63 33 la st M = kK X 63 30 3 36 4 la st M := evK ((pm63 X 33).trans rfl) la st M
theorem e63_36 (X : aX) (la : aLs) (st : List aV) (M : aM) : go X 63 36 la st M = i_irt st M := evR ((pm63 X 36).trans rfl) la st M
theorem c63 (X : aX) (as : List aV) (M : aM) : cl X 63 as M = if cs as ≤ 3 then go X 63 0 (ent 3 as) [] M else none := rfl
theorem pm64 (X : aX) (pc : Nat) : pg X 64 pc = lk pc (tb64 X) := rfl
theorem e64_0 (X : aX) (la : aLs) (st : List aV) (M : aM) : go X 64 0 la st M = kC X 64 (i_lda 0 1 la st M) := evC ((pm64 X 0).trans rfl) la st M
theorem e64_1 (X : aX) (la : aLs) (st : List aV) (M : aM) : go X 64 1 la st M = kC X 64 (i_get 5 0 4 la st M) := evC ((pm64 X 1).trans rfl) la st M
theorem e64_4 (X : aX) (la : aLs) (st : List aV) (M : aM) : go X 64 4 la st M = kC X 64 (i_ldi 1 5 la st M) := evC ((pm64 X 4).trans rfl) la st M
theorem e64_5 (X : aX) (la : aLs) (st : List aV) (M : aM) : go X 64 5 la st M = kK X 64 27 2 8 4 la st M := evK ((pm64 X 5).trans rfl) la st M
theorem e64_8 (X : aX) (la : aLs) (st : List aV) (M : aM) : go X 64 8 la st M = kC X 64 (i_ife 24 11 la st M) := evC ((pm64 X 8).trans rfl) la st M
theorem e64_11 (X : aX) (la : aLs) (st : List aV) (M : aM) : go X 64 11 la st M = kC X 64 (i_lda 0 12 la st M) := evC ((pm64 X 11).trans rfl) la st M
theorem e64_12 (X : aX) (la : aLs) (st : List aV) (M : aM) : go X 64 12 la st M = kC X 64 (i_get 5 0 15 la st M) := evC ((pm64 X 12).trans rfl) la st M
theorem e64_15 (X : aX) (la : aLs) (st : List aV) (M : aM) : go X 64 15 la st M = kC X 64 (i_ldi 1 16 la st M) := evC ((pm64 X 15).trans rfl) la st M
theorem e64_16 (X : aX) (la : aLs) (st : List aV) (M : aM) : go X 64 16 la st M = kC X 64 (i_ldi 2 17 la st M) := evC ((pm64 X 16).trans rfl) la st M
theorem e64_17 (X : aX) (la : aLs) (st : List aV) (M : aM) : go X 64 17 la st M = kC X 64 (i_ldi 3 18 la st M) := evC ((pm64 X 17).trans rfl) la st M
theorem e64_18 (X : aX) (la : aLs) (st : List aV) (M : aM) : go X 64 18 la st M = kK X 64 31 4 21 4 la st M := evK ((pm64 X 18).trans rfl) la st M
theorem e64_21 (X : aX) (la : aLs) (st : List aV) (M : aM) : go X 64 21 la st M = kC X 64 (i_ife 24 30 la st M) := evC ((pm64 X 21).trans rfl) la st M
theorem e64_24 (X : aX) (la : aLs) (st : List aV) (M : aM) : go X 64 24 la st M = kC X 64 (i_lda 0 25 la st M) := evC ((pm64 X 24).trans rfl) la st M
theorem e64_25 (X : aX) (la : aLs) (st : List aV) (M : aM) : go X 64 25 la st M = kC X 64 (i_ci (nI 0) 26 la st M) := evC ((pm64 X 25).trans rfl) la st M
theorem e64_26 (X : aX) (la : aLs) (st : List aV) (M : aM) : go X 64 26 la st M = kK X 64 101 2 29 6 la st M := evK ((pm64 X 26).trans rfl) la st M
theorem e64_29 (X : aX) (la : aLs) (st : List aV) (M : aM) : go X 64 29 la st M = i_irt st M := evR ((pm64 X 29).trans rfl) la st M
theorem e64_30 (X : aX) (la : aLs) (st : List aV) (M : aM) : go X 64 30 la st M = kC X 64 (i_lda 0 31 la st M) := evC ((pm64 X 30).trans rfl) la st M
theorem e64_31 (X : aX) (la : aLs) (st : List aV) (M : aM) : go X 64 31 la st M = kC X 64 (i_get 5 0 34 la st M) := evC ((pm64 X 31).trans rfl) la st M
theorem e64_34 (X : aX) (la : aLs) (st : List aV) (M : aM) : go X 64 34 la st M = kC X 64 (i_ldi 1 35 la st M) := evC ((pm64 X 34).trans rfl) la st M
theorem e64_35 (X : aX) (la : aLs) (st : List aV) (M : aM) : go X 64 35 la st M = kC X 64 (i_ldi 2 36 la st M) := evC ((pm64 X 35).trans rfl) la st M
theorem e64_36 (X : aX) (la : aLs) (st : List aV) (M : aM) : go X 64 36 la st M = kK X 64 30 3 39 4 la st M := evK ((pm64 X 36).trans rfl) la st M
theorem e64_39 (X : aX) (la : aLs) (st : List aV) (M : aM) : go X 64 39 la st M = kC X 64 (i_sti 4 41 la st M) := evC ((pm64 X 39).trans rfl) la st M
theorem e64_41 (X : aX) (la : aLs) (st : List aV) (M : aM) : go X 64 41 la st M = kC X 64 (i_lda 0 42 la st M) := evC ((pm64 X 41).trans rfl) la st M
theorem e64_42 (X : aX) (la : aLs) (st : List aV) (M : aM) : go X 64 42 la st M = kC X 64 (i_get 5 0 45 la st M) := evC ((pm64 X 42).trans rfl) la st M
theorem e64_45 (X : aX) (la : aLs) (st : List aV) (M : aM) : go X 64 45 la st M = kC X 64 (i_ldi 1 46 la st M) := evC ((pm64 X 45).trans rfl) la st M
theorem e64_46 (X : aX) (la : aLs) (st : List aV) (M : aM) : go X 64 46 la st M = kC X 64 (i_ldi 2 47 la st M) := evC ((pm64 X 46).trans rfl) la st M
theorem e64_47 (X : aX) (la : aLs) (st : List aV) (M : aM) : go X 64 47 la st M = kC X 64 (i_ldi 3 48 la st M) := evC ((pm64 X 47).trans rfl) la st M
theorem e64_48 (X : aX) (la : aLs) (st : List aV) (M : aM) : go X 64 48 la st M = kK X 64 32 4 51 4 la st M := evK ((pm64 X 48).trans rfl) la st M
theorem e64_51 (X : aX) (la : aLs) (st : List aV) (M : aM) : go X 64 51 la st M = kC X 64 (i_ldi 4 53 la st M) := evC ((pm64 X 51).trans rfl) la st M
theorem e64_53 (X : aX) (la : aLs) (st : List aV) (M : aM) : go X 64 53 la st M = i_irt st M := evR ((pm64 X 53).trans rfl) la st M
theorem c64 (X : aX) (as : List aV) (M : aM) : cl X 64 as M = if cs as ≤ 5 then go X 64 0 (ent 5 as) [] M else none := rfl
theorem pm65 (X : aX) (pc : Nat) : pg X 65 pc = lk pc (tb65 X) := rfl
theorem e65_0 (X : aX) (la : aLs) (st : List aV) (M : aM) : go X 65 0 la st M = kC X 65 (i_lda 0 1 la st M) := evC ((pm65 X 0).trans rfl) la st M
theorem e65_1 (X : aX) (la : aLs) (st : List aV) (M : aM) : go X 65 1 la st M = kC X 65 (i_get 5 0 4 la st M) := evC ((pm65 X 1).trans rfl) la st M
theorem e65_4 (X : aX) (la : aLs) (st : List aV) (M : aM) : go X 65 4 la st M = kC X 65 (i_ldi 1 5 la st M) := evC ((pm65 X 4).trans rfl) la st M
theorem e65_5 (X : aX) (la : aLs) (st : List aV) (M : aM) : go X 65 5 la st M = kK X 65 27 2 8 4 la st M := evK ((pm65 X 5).trans rfl) la st M
theorem e65_8 (X : aX) (la : aLs) (st : List aV) (M : aM) : go X 65 8 la st M = kC X 65 (i_ife 11 17 la st M) := evC ((pm65 X 8).trans rfl) la st M
theorem e65_11 (X : aX) (la : aLs) (st : List aV) (M : aM) : go X 65 11 la st M = kC X 65 (i_lda 0 12 la st M) := evC ((pm65 X 11).trans rfl) la st M
theorem e65_12 (X : aX) (la : aLs) (st : List aV) (M : aM) : go X 65 12 la st M = kC X 65 (i_ci (nI 0) 13 la st M) := evC ((pm65 X 12).trans rfl) la st M
theorem e65_13 (X : aX) (la : aLs) (st : List aV) (M : aM) : go X 65 13 la st M = kK X 65 101 2 16 6 la st M := evK ((pm65 X 13).trans rfl) la st M
theorem e65_16 (X : aX) (la : aLs) (st : List aV) (M : aM) : go X 65 16 la st M = i_irt st M := evR ((pm65 X 16).trans rfl) la st M
theorem e65_17 (X : aX) (la : aLs) (st : List aV) (M : aM) : go X 65 17 la st M = kC X 65 (i_lda 0 18 la st M) := evC ((pm65 X 17).trans rfl) la st M
theorem e65_18 (X : aX) (la : aLs) (st : List aV) (M : aM) : go X 65 18 la st M = kC X 65 (i_get 5 0 21 la st M) := evC ((pm65 X 18).trans rfl) la st M
theorem e65_21 (X : aX) (la : aLs) (st : List aV) (M : aM) : go X 65 21 la st M = kC X 65 (i_ldi 1 22 la st M) := evC ((pm65 X 21).trans rfl) la st M
theorem e65_22 (X : aX) (la : aLs) (st : List aV) (M : aM) : go X 65 22 la st M = kK X 65 38 2 25 4 la st M := evK ((pm65 X 22).trans rfl) la st M
theorem e65_25 (X : aX) (la : aLs) (st : List aV) (M : aM) : go X 65 25 la st M = i_irt st M := evR ((pm65 X 25).trans rfl) la st M
theorem c65 (X : aX) (as : List aV) (M : aM) : cl X 65 as M = if cs as ≤ 2 then go X 65 0 (ent 2 as) [] M else none := rfl
theorem pm66 (X : aX) (pc : Nat) : pg X 66 pc = lk pc (tb66 X) := rfl
theorem e66_0 (X : aX) (la : aLs) (st : List aV) (M : aM) : go X 66 0 la st M = kC X 66 (i_lda 0 1 la st M) := evC ((pm66 X 0).trans rfl) la st M
theorem e66_1 (X : aX) (la : aLs) (st : List aV) (M : aM) : go X 66 1 la st M = kC X 66 (i_get 5 0 4 la st M) := evC ((pm66 X 1).trans rfl) la st M
theorem e66_4 (X : aX) (la : aLs) (st : List aV) (M : aM) : go X 66 4 la st M = kC X 66 (i_ldi 1 5 la st M) := evC ((pm66 X 4).trans rfl) la st M
theorem e66_5 (X : aX) (la : aLs) (st : List aV) (M : aM) : go X 66 5 la st M = kK X 66 27 2 8 4 la st M := evK ((pm66 X 5).trans rfl) la st M
theorem e66_8 (X : aX) (la : aLs) (st : List aV) (M : aM) : go X 66 8 la st M = kC X 66 (i_ife 11 17 la st M) := evC ((pm66 X 8).trans rfl) la st M
theorem e66_11 (X : aX) (la : aLs) (st : List aV) (M : aM) : go X 66 11 la st M = kC X 66 (i_lda 0 12 la st M) := evC ((pm66 X 11).trans rfl) la st M
theorem e66_12 (X : aX) (la : aLs) (st : List aV) (M : aM) : go X 66 12 la st M = kC X 66 (i_ci (nI 0) 13 la st M) := evC ((pm66 X 12).trans rfl) la st M
theorem e66_13 (X : aX) (la : aLs) (st : List aV) (M : aM) : go X 66 13 la st M = kK X 66 101 2 16 6 la st M := evK ((pm66 X 13).trans rfl) la st M
theorem e66_16 (X : aX) (la : aLs) (st : List aV) (M : aM) : go X 66 16 la st M = i_irt st M := evR ((pm66 X 16).trans rfl) la st M
theorem e66_17 (X : aX) (la : aLs) (st : List aV) (M : aM) : go X 66 17 la st M = kC X 66 (i_lda 0 18 la st M) := evC ((pm66 X 17).trans rfl) la st M
theorem e66_18 (X : aX) (la : aLs) (st : List aV) (M : aM) : go X 66 18 la st M = kC X 66 (i_get 5 0 21 la st M) := evC ((pm66 X 18).trans rfl) la st M
theorem e66_21 (X : aX) (la : aLs) (st : List aV) (M : aM) : go X 66 21 la st M = kC X 66 (i_ldi 1 22 la st M) := evC ((pm66 X 21).trans rfl) la st M
theorem e66_22 (X : aX) (la : aLs) (st : List aV) (M : aM) : go X 66 22 la st M = kC X 66 (i_ci (nI 6) 24 la st M) := evC ((pm66 X 22).trans rfl) la st M
theorem e66_24 (X : aX) (la : aLs) (st : List aV) (M : aM) : go X 66 24 la st M = kK X 66 30 3 27 4 la st M := evK ((pm66 X 24).trans rfl) la st M
theorem e66_27 (X : aX) (la : aLs) (st : List aV) (M : aM) : go X 66 27 la st M = kC X 66 (i_ife 36 30 la st M) := evC ((pm66 X 27).trans rfl) la st M
theorem e66_30 (X : aX) (la : aLs) (st : List aV) (M : aM) : go X 66 30 la st M = kC X 66 (i_lda 0 31 la st M) := evC ((pm66 X 30).trans rfl) la st M
theorem e66_31 (X : aX) (la : aLs) (st : List aV) (M : aM) : go X 66 31 la st M = kC X 66 (i_ci (nI 4) 32 la st M) := evC ((pm66 X 31).trans rfl) la st M
theorem e66_32 (X : aX) (la : aLs) (st : List aV) (M : aM) : go X 66 32 la st M = kK X 66 101 2 35 6 la st M := evK ((pm66 X 32).trans rfl) la st M
theorem e66_35 (X : aX) (la : aLs) (st : List aV) (M : aM) : go X 66 35 la st M = i_irt st M := evR ((pm66 X 35).trans rfl) la st M
theorem e66_36 (X : aX) (la : aLs) (st : List aV) (M : aM) : go X 66 36 la st M = kC X 66 (i_lda 0 37 la st M) := evC ((pm66 X 36).trans rfl) la st M
theorem e66_37 (X : aX) (la : aLs) (st : List aV) (M : aM) : go X 66 37 la st M = kC X 66 (i_get 5 0 40 la st M) := evC ((pm66 X 37).trans rfl) la st M
theorem e66_40 (X : aX) (la : aLs) (st : List aV) (M : aM) : go X 66 40 la st M = kC X 66 (i_ldi 1 41 la st M) := evC ((pm66 X 40).trans rfl) la st M
theorem e66_41 (X : aX) (la : aLs) (st : List aV) (M : aM) : go X 66 41 la st M = kK X 66 33 2 44 4 la st M := evK ((pm66 X 41).trans rfl) la st M
theorem e66_44 (X : aX) (la : aLs) (st : List aV) (M : aM) : go X 66 44 la st M = kC X 66 (i_lda 0 45 la st M) := evC ((pm66 X 44).trans rfl) la st M
theorem e66_45 (X : aX) (la : aLs) (st : List aV) (M : aM) : go X 66 45 la st M = kC X 66 (i_get 5 0 48 la st M) := evC ((pm66 X 45).trans rfl) la st M
theorem e66_48 (X : aX) (la : aLs) (st : List aV) (M : aM) : go X 66 48 la st M = kC X 66 (i_ldi 1 49 la st M) := evC ((pm66 X 48).trans rfl) la st M
theorem e66_49 (X : aX) (la : aLs) (st : List aV) (M : aM) : go X 66 49 la st M = kC X 66 (i_ci (nI 7) 51 la st M) := evC ((pm66 X 49).trans rfl) la st M
theorem e66_51 (X : aX) (la : aLs) (st : List aV) (M : aM) : go X 66 51 la st M = kK X 66 30 3 54 4 la st M := evK ((pm66 X 51).trans rfl) la st M
theorem e66_54 (X : aX) (la : aLs) (st : List aV) (M : aM) : go X 66 54 la st M = i_irt st M := evR ((pm66 X 54).trans rfl) la st M
theorem c66 (X : aX) (as : List aV) (M : aM) : cl X 66 as M = if cs as ≤ 2 then go X 66 0 (ent 2 as) [] M else none := rfl
theorem pm67 (X : aX) (pc : Nat) : pg X 67 pc = lk pc (tb67 X) := rfl
theorem e67_0 (X : aX) (la : aLs) (st : List aV) (M : aM) : go X 67 0 la st M = kC X 67 (i_ldi 1 1 la st M) := evC ((pm67 X 0).trans rfl) la st M
theorem e67_1 (X : aX) (la : aLs) (st : List aV) (M : aM) : go X 67 1 la st M = kC X 67 (i_ci (nI 1) 2 la st M) := evC ((pm67 X 1).trans rfl) la st M
theorem e67_2 (X : aX) (la : aLs) (st : List aV) (M : aM) : go X 67 2 la st M = kC X 67 (i_ci (nI 60) 4 la st M) := evC ((pm67 X 2).trans rfl) la st M
theorem e67_4 (X : aX) (la : aLs) (st : List aV) (M : aM) : go X 67 4 la st M = kK X 67 102 3 7 0 la st M := evK ((pm67 X 4).trans rfl) la st M
theorem e67_7 (X : aX) (la : aLs) (st : List aV) (M : aM) : go X 67 7 la st M = kC X 67 (i_ife 10 16 la st M) := evC ((pm67 X 7).trans rfl) la st M
theorem e67_10 (X : aX) (la : aLs) (st : List aV) (M : aM) : go X 67 10 la st M = kC X 67 (i_lda 0 11 la st M) := evC ((pm67 X 10).trans rfl) la st M
theorem e67_11 (X : aX) (la : aLs) (st : List aV) (M : aM) : go X 67 11 la st M = kC X 67 (i_ci (nI 0) 12 la st M) := evC ((pm67 X 11).trans rfl) la st M
theorem e67_12 (X : aX) (la : aLs) (st : List aV) (M : aM) : go X 67 12 la st M = kK X 67 101 2 15 6 la st M := evK ((pm67 X 12).trans rfl) la st M
theorem e67_15 (X : aX) (la : aLs) (st : List aV) (M : aM) : go X 67 15 la st M = i_irt st M := evR ((pm67 X 15).trans rfl) la st M
theorem e67_16 (X : aX) (la : aLs) (st : List aV) (M : aM) : go X 67 16 la st M = kC X 67 (i_lda 0 17 la st M) := evC ((pm67 X 16).trans rfl) la st M
theorem e67_17 (X : aX) (la : aLs) (st : List aV) (M : aM) : go X 67 17 la st M = kC X 67 (i_get 5 0 20 la st M) := evC ((pm67 X 17).trans rfl) la st M
theorem e67_20 (X : aX) (la : aLs) (st : List aV) (M : aM) : go X 67 20 la st M = kC X 67 (i_ldi 1 21 la st M) := evC ((pm67 X 20).trans rfl) la st M
theorem e67_21 (X : aX) (la : aLs) (st : List aV) (M : aM) : go X 67 21 la st M = kK X 67 44 2 24 4 la st M := evK ((pm67 X 21).trans rfl) la st M
theorem e67_24 (X : aX) (la : aLs) (st : List aV) (M : aM) : go X 67 24 la st M = kC X 67 (i_ife 27 33 la st M) := evC ((pm67 X 24).trans rfl) la st M
theorem e67_27 (X : aX) (la : aLs) (st : List aV) (M : aM) : go X 67 27 la st M = kC X 67 (i_lda 0 28 la st M) := evC ((pm67 X 27).trans rfl) la st M
theorem e67_28 (X : aX) (la : aLs) (st : List aV) (M : aM) : go X 67 28 la st M = kC X 67 (i_ci (nI 4) 29 la st M) := evC ((pm67 X 28).trans rfl) la st M
theorem e67_29 (X : aX) (la : aLs) (st : List aV) (M : aM) : go X 67 29 la st M = kK X 67 101 2 32 6 la st M := evK ((pm67 X 29).trans rfl) la st M
theorem e67_32 (X : aX) (la : aLs) (st : List aV) (M : aM) : go X 67 32 la st M = i_irt st M := evR ((pm67 X 32).trans rfl) la st M
theorem e67_33 (X : aX) (la : aLs) (st : List aV) (M : aM) : go X 67 33 la st M = kC X 67 (i_lda 0 34 la st M) := evC ((pm67 X 33).trans rfl) la st M
theorem e67_34 (X : aX) (la : aLs) (st : List aV) (M : aM) : go X 67 34 la st M = kC X 67 (i_get 5 0 37 la st M) := evC ((pm67 X 34).trans rfl) la st M
theorem e67_37 (X : aX) (la : aLs) (st : List aV) (M : aM) : go X 67 37 la st M = kC X 67 (i_ldi 1 38 la st M) := evC ((pm67 X 37).trans rfl) la st M
theorem e67_38 (X : aX) (la : aLs) (st : List aV) (M : aM) : go X 67 38 la st M = kK X 67 46 2 41 4 la st M := evK ((pm67 X 38).trans rfl) la st M
theorem e67_41 (X : aX) (la : aLs) (st : List aV) (M : aM) : go X 67 41 la st M = kC X 67 (i_lda 0 42 la st M) := evC ((pm67 X 41).trans rfl) la st M
theorem e67_42 (X : aX) (la : aLs) (st : List aV) (M : aM) : go X 67 42 la st M = kC X 67 (i_get 5 0 45 la st M) := evC ((pm67 X 42).trans rfl) la st M
theorem e67_45 (X : aX) (la : aLs) (st : List aV) (M : aM) : go X 67 45 la st M = kK X 67 35 1 48 4 la st M := evK ((pm67 X 45).trans rfl) la st M
theorem e67_48 (X : aX) (la : aLs) (st : List aV) (M : aM) : go X 67 48 la st M = i_irt st M := evR ((pm67 X 48).trans rfl) la st M
theorem c67 (X : aX) (as : List aV) (M : aM) : cl X 67 as M = if cs as ≤ 2 then go X 67 0 (ent 2 as) [] M else none := rfl
theorem pm68 (X : aX) (pc : Nat) : pg X 68 pc = lk pc (tb68 X) := rfl
theorem e68_0 (X : aX) (la : aLs) (st : List aV) (M : aM) : go X 68 0 la st M = kC X 68 (i_ldi 1 1 la st M) := evC ((pm68 X 0).trans rfl) la st M
theorem e68_1 (X : aX) (la : aLs) (st : List aV) (M : aM) : go X 68 1 la st M = kC X 68 (i_sw [(nI 0, 48), (nI 1, 56), (nI 2, 64), (nI 3, 72), (nI 4, 80), (nI 5, 90), (nI 6, 98), (nI 7, 107)] 115 la st M) := evC ((pm68 X 1).trans rfl) la st M
theorem e68_48 (X : aX) (la : aLs) (st : List aV) (M : aM) : go X 68 48 la st M = kC X 68 (i_lda 0 49 la st M) := evC ((pm68 X 48).trans rfl) la st M
theorem e68_49 (X : aX) (la : aLs) (st : List aV) (M : aM) : go X 68 49 la st M = kC X 68 (i_get 5 0 52 la st M) := evC ((pm68 X 49).trans rfl) la st M
theorem e68_52 (X : aX) (la : aLs) (st : List aV) (M : aM) : go X 68 52 la st M = kC X 68 (i_get 3 3 55 la st M) := evC ((pm68 X 52).trans rfl) la st M
theorem e68_55 (X : aX) (la : aLs) (st : List aV) (M : aM) : go X 68 55 la st M = i_irt st M := evR ((pm68 X 55).trans rfl) la st M
theorem e68_56 (X : aX) (la : aLs) (st : List aV) (M : aM) : go X 68 56 la st M = kC X 68 (i_lda 0 57 la st M) := evC ((pm68 X 56).trans rfl) la st M
theorem e68_57 (X : aX) (la : aLs) (st : List aV) (M : aM) : go X 68 57 la st M = kC X 68 (i_get 5 0 60 la st M) := evC ((pm68 X 57).trans rfl) la st M
theorem e68_60 (X : aX) (la : aLs) (st : List aV) (M : aM) : go X 68 60 la st M = kK X 68 35 1 63 4 la st M := evK ((pm68 X 60).trans rfl) la st M
theorem e68_63 (X : aX) (la : aLs) (st : List aV) (M : aM) : go X 68 63 la st M = i_irt st M := evR ((pm68 X 63).trans rfl) la st M
theorem e68_64 (X : aX) (la : aLs) (st : List aV) (M : aM) : go X 68 64 la st M = kC X 68 (i_lda 0 65 la st M) := evC ((pm68 X 64).trans rfl) la st M
theorem e68_65 (X : aX) (la : aLs) (st : List aV) (M : aM) : go X 68 65 la st M = kC X 68 (i_get 5 0 68 la st M) := evC ((pm68 X 65).trans rfl) la st M
theorem e68_68 (X : aX) (la : aLs) (st : List aV) (M : aM) : go X 68 68 la st M = kK X 68 36 1 71 4 la st M := evK ((pm68 X 68).trans rfl) la st M
theorem e68_71 (X : aX) (la : aLs) (st : List aV) (M : aM) : go X 68 71 la st M = i_irt st M := evR ((pm68 X 71).trans rfl) la st M
theorem e68_72 (X : aX) (la : aLs) (st : List aV) (M : aM) : go X 68 72 la st M = kC X 68 (i_lda 0 73 la st M) := evC ((pm68 X 72).trans rfl) la st M
theorem e68_73 (X : aX) (la : aLs) (st : List aV) (M : aM) : go X 68 73 la st M = kC X 68 (i_get 5 0 76 la st M) := evC ((pm68 X 73).trans rfl) la st M
theorem e68_76 (X : aX) (la : aLs) (st : List aV) (M : aM) : go X 68 76 la st M = kC X 68 (i_get 3 4 79 la st M) := evC ((pm68 X 76).trans rfl) la st M
theorem e68_79 (X : aX) (la : aLs) (st : List aV) (M : aM) : go X 68 79 la st M = i_irt st M := evR ((pm68 X 79).trans rfl) la st M
theorem e68_80 (X : aX) (la : aLs) (st : List aV) (M : aM) : go X 68 80 la st M = kC X 68 (i_lda 0 81 la st M) := evC ((pm68 X 80).trans rfl) la st M
theorem e68_81 (X : aX) (la : aLs) (st : List aV) (M : aM) : go X 68 81 la st M = kC X 68 (i_get 5 0 84 la st M) := evC ((pm68 X 81).trans rfl) la st M
theorem e68_84 (X : aX) (la : aLs) (st : List aV) (M : aM) : go X 68 84 la st M = kC X 68 (i_ci (nI 9) 86 la st M) := evC ((pm68 X 84).trans rfl) la st M
theorem e68_86 (X : aX) (la : aLs) (st : List aV) (M : aM) : go X 68 86 la st M = kK X 68 40 2 89 4 la st M := evK ((pm68 X 86).trans rfl) la st M
theorem e68_89 (X : aX) (la : aLs) (st : List aV) (M : aM) : go X 68 89 la st M = i_irt st M := evR ((pm68 X 89).trans rfl) la st M
theorem e68_90 (X : aX) (la : aLs) (st : List aV) (M : aM) : go X 68 90 la st M = kC X 68 (i_lda 0 91 la st M) := evC ((pm68 X 90).trans rfl) la st M
theorem e68_91 (X : aX) (la : aLs) (st : List aV) (M : aM) : go X 68 91 la st M = kC X 68 (i_get 5 0 94 la st M) := evC ((pm68 X 91).trans rfl) la st M
theorem e68_94 (X : aX) (la : aLs) (st : List aV) (M : aM) : go X 68 94 la st M = kK X 68 37 1 97 4 la st M := evK ((pm68 X 94).trans rfl) la st M
theorem e68_97 (X : aX) (la : aLs) (st : List aV) (M : aM) : go X 68 97 la st M = i_irt st M := evR ((pm68 X 97).trans rfl) la st M
theorem e68_98 (X : aX) (la : aLs) (st : List aV) (M : aM) : go X 68 98 la st M = kC X 68 (i_lda 0 99 la st M) := evC ((pm68 X 98).trans rfl) la st M
theorem e68_99 (X : aX) (la : aLs) (st : List aV) (M : aM) : go X 68 99 la st M = kC X 68 (i_get 5 0 102 la st M) := evC ((pm68 X 99).trans rfl) la st M
theorem e68_102 (X : aX) (la : aLs) (st : List aV) (M : aM) : go X 68 102 la st M = kC X 68 (i_ci (nI 3) 103 la st M) := evC ((pm68 X 102).trans rfl) la st M
theorem e68_103 (X : aX) (la : aLs) (st : List aV) (M : aM) : go X 68 103 la st M = kK X 68 40 2 106 4 la st M := evK ((pm68 X 103).trans rfl) la st M
theorem e68_106 (X : aX) (la : aLs) (st : List aV) (M : aM) : go X 68 106 la st M = i_irt st M := evR ((pm68 X 106).trans rfl) la st M
theorem e68_107 (X : aX) (la : aLs) (st : List aV) (M : aM) : go X 68 107 la st M = kC X 68 (i_lda 0 108 la st M) := evC ((pm68 X 107).trans rfl) la st M
theorem e68_108 (X : aX) (la : aLs) (st : List aV) (M : aM) : go X 68 108 la st M = kC X 68 (i_get 5 0 111 la st M) := evC ((pm68 X 108).trans rfl) la st M
theorem e68_111 (X : aX) (la : aLs) (st : List aV) (M : aM) : go X 68 111 la st M = kK X 68 43 1 114 4 la st M := evK ((pm68 X 111).trans rfl) la st M
theorem e68_114 (X : aX) (la : aLs) (st : List aV) (M : aM) : go X 68 114 la st M = i_irt st M := evR ((pm68 X 114).trans rfl) la st M
theorem e68_115 (X : aX) (la : aLs) (st : List aV) (M : aM) : go X 68 115 la st M = kC X 68 (i_lda 0 116 la st M) := evC ((pm68 X 115).trans rfl) la st M
theorem e68_116 (X : aX) (la : aLs) (st : List aV) (M : aM) : go X 68 116 la st M = kC X 68 (i_ci (nI 0) 117 la st M) := evC ((pm68 X 116).trans rfl) la st M
theorem e68_117 (X : aX) (la : aLs) (st : List aV) (M : aM) : go X 68 117 la st M = kK X 68 101 2 120 6 la st M := evK ((pm68 X 117).trans rfl) la st M
theorem e68_120 (X : aX) (la : aLs) (st : List aV) (M : aM) : go X 68 120 la st M = i_irt st M := evR ((pm68 X 120).trans rfl) la st M
theorem c68 (X : aX) (as : List aV) (M : aM) : cl X 68 as M = if cs as ≤ 2 then go X 68 0 (ent 2 as) [] M else none := rfl
theorem pm69 (X : aX) (pc : Nat) : pg X 69 pc = lk pc (tb69 X) := rfl
theorem e69_0 (X : aX) (la : aLs) (st : List aV) (M : aM) : go X 69 0 la st M = kC X 69 (i_lda 0 1 la st M) := evC ((pm69 X 0).trans rfl) la st M
theorem e69_1 (X : aX) (la : aLs) (st : List aV) (M : aM) : go X 69 1 la st M = kC X 69 (i_get 5 0 4 la st M) := evC ((pm69 X 1).trans rfl) la st M
theorem e69_4 (X : aX) (la : aLs) (st : List aV) (M : aM) : go X 69 4 la st M = kC X 69 (i_ldi 1 5 la st M) := evC ((pm69 X 4).trans rfl) la st M
theorem e69_5 (X : aX) (la : aLs) (st : List aV) (M : aM) : go X 69 5 la st M = kK X 69 27 2 8 4 la st M := evK ((pm69 X 5).trans rfl) la st M
theorem e69_8 (X : aX) (la : aLs) (st : List aV) (M : aM) : go X 69 8 la st M = kC X 69 (i_ife 29 11 la st M) := evC ((pm69 X 8).trans rfl) la st M
theorem e69_11 (X : aX) (la : aLs) (st : List aV) (M : aM) : go X 69 11 la st M = kC X 69 (i_ldi 2 12 la st M) := evC ((pm69 X 11).trans rfl) la st M
theorem e69_12 (X : aX) (la : aLs) (st : List aV) (M : aM) : go X 69 12 la st M = kK X 69 103 1 15 0 la st M := evK ((pm69 X 12).trans rfl) la st M
theorem e69_15 (X : aX) (la : aLs) (st : List aV) (M : aM) : go X 69 15 la st M = kC X 69 (i_ife 29 18 la st M) := evC ((pm69 X 15).trans rfl) la st M
theorem e69_18 (X : aX) (la : aLs) (st : List aV) (M : aM) : go X 69 18 la st M = kC X 69 (i_ldi 3 19 la st M) := evC ((pm69 X 18).trans rfl) la st M
theorem e69_19 (X : aX) (la : aLs) (st : List aV) (M : aM) : go X 69 19 la st M = kC X 69 (i_ci (nI 0) 20 la st M) := evC ((pm69 X 19).trans rfl) la st M
theorem e69_20 (X : aX) (la : aLs) (st : List aV) (M : aM) : go X 69 20 la st M = kC X 69 (i_ci (nI 200) 23 la st M) := evC ((pm69 X 20).trans rfl) la st M
theorem e69_23 (X : aX) (la : aLs) (st : List aV) (M : aM) : go X 69 23 la st M = kK X 69 102 3 26 0 la st M := evK ((pm69 X 23).trans rfl) la st M
theorem e69_26 (X : aX) (la : aLs) (st : List aV) (M : aM) : go X 69 26 la st M = kC X 69 (i_ife 29 35 la st M) := evC ((pm69 X 26).trans rfl) la st M
theorem e69_29 (X : aX) (la : aLs) (st : List aV) (M : aM) : go X 69 29 la st M = kC X 69 (i_lda 0 30 la st M) := evC ((pm69 X 29).trans rfl) la st M
theorem e69_30 (X : aX) (la : aLs) (st : List aV) (M : aM) : go X 69 30 la st M = kC X 69 (i_ci (nI 0) 31 la st M) := evC ((pm69 X 30).trans rfl) la st M
theorem e69_31 (X : aX) (la : aLs) (st : List aV) (M : aM) : go X 69 31 la st M = kK X 69 101 2 34 6 la st M := evK ((pm69 X 31).trans rfl) la st M
theorem e69_34 (X : aX) (la : aLs) (st : List aV) (M : aM) : go X 69 34 la st M = i_irt st M := evR ((pm69 X 34).trans rfl) la st M
theorem e69_35 (X : aX) (la : aLs) (st : List aV) (M : aM) : go X 69 35 la st M = kC X 69 (i_lda 0 36 la st M) := evC ((pm69 X 35).trans rfl) la st M
theorem e69_36 (X : aX) (la : aLs) (st : List aV) (M : aM) : go X 69 36 la st M = kC X 69 (i_get 5 1 39 la st M) := evC ((pm69 X 36).trans rfl) la st M
theorem e69_39 (X : aX) (la : aLs) (st : List aV) (M : aM) : go X 69 39 la st M = kC X 69 (i_lda 0 40 la st M) := evC ((pm69 X 39).trans rfl) la st M
theorem e69_40 (X : aX) (la : aLs) (st : List aV) (M : aM) : go X 69 40 la st M = kC X 69 (i_get 5 0 43 la st M) := evC ((pm69 X 40).trans rfl) la st M
theorem e69_43 (X : aX) (la : aLs) (st : List aV) (M : aM) : go X 69 43 la st M = kK X 69 26 2 46 4 la st M := evK ((pm69 X 43).trans rfl) la st M
theorem e69_46 (X : aX) (la : aLs) (st : List aV) (M : aM) : go X 69 46 la st M = kC X 69 (i_lda 0 47 la st M) := evC ((pm69 X 46).trans rfl) la st M
theorem e69_47 (X : aX) (la : aLs) (st : List aV) (M : aM) : go X 69 47 la st M = kC X 69 (i_get 5 1 50 la st M) := evC ((pm69 X 47).trans rfl) la st M
theorem e69_50 (X : aX) (la : aLs) (st : List aV) (M : aM) : go X 69 50 la st M = kC X 69 (i_ldi 3 51 la st M) := evC ((pm69 X 50).trans rfl) la st M
theorem e69_51 (X : aX) (la : aLs) (st : List aV) (M : aM) : go X 69 51 la st M = kK X 69 46 2 54 4 la st M := evK ((pm69 X 51).trans rfl) la st M
theorem e69_54 (X : aX) (la : aLs) (st : List aV) (M : aM) : go X 69 54 la st M = kC X 69 (i_lda 0 55 la st M) := evC ((pm69 X 54).trans rfl) la st M
theorem e69_55 (X : aX) (la : aLs) (st : List aV) (M : aM) : go X 69 55 la st M = kC X 69 (i_get 5 1 58 la st M) := evC ((pm69 X 55).trans rfl) la st M
theorem e69_58 (X : aX) (la : aLs) (st : List aV) (M : aM) : go X 69 58 la st M = kC X 69 (i_ldi 1 59 la st M) := evC ((pm69 X 58).trans rfl) la st M
theorem e69_59 (X : aX) (la : aLs) (st : List aV) (M : aM) : go X 69 59 la st M = kC X 69 (i_ldi 2 60 la st M) := evC ((pm69 X 59).trans rfl) la st M
theorem e69_60 (X : aX) (la : aLs) (st : List aV) (M : aM) : go X 69 60 la st M = kK X 69 30 3 63 4 la st M := evK ((pm69 X 60).trans rfl) la st M
theorem e69_63 (X : aX) (la : aLs) (st : List aV) (M : aM) : go X 69 63 la st M = i_irt st M := evR ((pm69 X 63).trans rfl) la st M
theorem c69 (X : aX) (as : List aV) (M : aM) : cl X 69 as M = if cs as ≤ 4 then go X 69 0 (ent 4 as) [] M else none := rfl
theorem pm70 (X : aX) (pc : Nat) : pg X 70 pc = lk pc (tb70 X) := rfl
theorem e70_0 (X : aX) (la : aLs) (st : List aV) (M : aM) : go X 70 0 la st M = kC X 70 (i_lda 0 1 la st M) := evC ((pm70 X 0).trans rfl) la st M
theorem e70_1 (X : aX) (la : aLs) (st : List aV) (M : aM) : go X 70 1 la st M = kC X 70 (i_get 5 0 4 la st M) := evC ((pm70 X 1).trans rfl) la st M
theorem e70_4 (X : aX) (la : aLs) (st : List aV) (M : aM) : go X 70 4 la st M = kC X 70 (i_ldi 1 5 la st M) := evC ((pm70 X 4).trans rfl) la st M
theorem e70_5 (X : aX) (la : aLs) (st : List aV) (M : aM) : go X 70 5 la st M = kK X 70 27 2 8 4 la st M := evK ((pm70 X 5).trans rfl) la st M
theorem e70_8 (X : aX) (la : aLs) (st : List aV) (M : aM) : go X 70 8 la st M = kC X 70 (i_ife 11 17 la st M) := evC ((pm70 X 8).trans rfl) la st M
theorem e70_11 (X : aX) (la : aLs) (st : List aV) (M : aM) : go X 70 11 la st M = kC X 70 (i_lda 0 12 la st M) := evC ((pm70 X 11).trans rfl) la st M
theorem e70_12 (X : aX) (la : aLs) (st : List aV) (M : aM) : go X 70 12 la st M = kC X 70 (i_ci (nI 0) 13 la st M) := evC ((pm70 X 12).trans rfl) la st M
theorem e70_13 (X : aX) (la : aLs) (st : List aV) (M : aM) : go X 70 13 la st M = kK X 70 101 2 16 6 la st M := evK ((pm70 X 13).trans rfl) la st M
theorem e70_16 (X : aX) (la : aLs) (st : List aV) (M : aM) : go X 70 16 la st M = i_irt st M := evR ((pm70 X 16).trans rfl) la st M
theorem e70_17 (X : aX) (la : aLs) (st : List aV) (M : aM) : go X 70 17 la st M = kC X 70 (i_lda 0 18 la st M) := evC ((pm70 X 17).trans rfl) la st M
theorem e70_18 (X : aX) (la : aLs) (st : List aV) (M : aM) : go X 70 18 la st M = kC X 70 (i_ci (nI 1) 19 la st M) := evC ((pm70 X 18).trans rfl) la st M
theorem e70_19 (X : aX) (la : aLs) (st : List aV) (M : aM) : go X 70 19 la st M = kC X 70 (i_ldi 1 20 la st M) := evC ((pm70 X 19).trans rfl) la st M
theorem e70_20 (X : aX) (la : aLs) (st : List aV) (M : aM) : go X 70 20 la st M = kC X 70 (i_bin (fun x y => x <<< (y &&& 31)) 21 la st M) := evC ((pm70 X 20).trans rfl) la st M
theorem e70_21 (X : aX) (la : aLs) (st : List aV) (M : aM) : go X 70 21 la st M = kK X 70 104 2 24 6 la st M := evK ((pm70 X 21).trans rfl) la st M
theorem e70_24 (X : aX) (la : aLs) (st : List aV) (M : aM) : go X 70 24 la st M = i_irt st M := evR ((pm70 X 24).trans rfl) la st M
theorem c70 (X : aX) (as : List aV) (M : aM) : cl X 70 as M = if cs as ≤ 2 then go X 70 0 (ent 2 as) [] M else none := rfl
theorem pm71 (X : aX) (pc : Nat) : pg X 71 pc = lk pc (tb71 X) := rfl
theorem e71_0 (X : aX) (la : aLs) (st : List aV) (M : aM) : go X 71 0 la st M = kC X 71 (i_lda 0 1 la st M) := evC ((pm71 X 0).trans rfl) la st M
theorem e71_1 (X : aX) (la : aLs) (st : List aV) (M : aM) : go X 71 1 la st M = kC X 71 (i_get 5 0 4 la st M) := evC ((pm71 X 1).trans rfl) la st M
theorem e71_4 (X : aX) (la : aLs) (st : List aV) (M : aM) : go X 71 4 la st M = kC X 71 (i_ldi 1 5 la st M) := evC ((pm71 X 4).trans rfl) la st M
theorem e71_5 (X : aX) (la : aLs) (st : List aV) (M : aM) : go X 71 5 la st M = kK X 71 27 2 8 4 la st M := evK ((pm71 X 5).trans rfl) la st M
theorem e71_8 (X : aX) (la : aLs) (st : List aV) (M : aM) : go X 71 8 la st M = kC X 71 (i_ife 27 11 la st M) := evC ((pm71 X 8).trans rfl) la st M
theorem e71_11 (X : aX) (la : aLs) (st : List aV) (M : aM) : go X 71 11 la st M = kC X 71 (i_lda 0 12 la st M) := evC ((pm71 X 11).trans rfl) la st M
theorem e71_12 (X : aX) (la : aLs) (st : List aV) (M : aM) : go X 71 12 la st M = kC X 71 (i_get 5 0 15 la st M) := evC ((pm71 X 12).trans rfl) la st M
theorem e71_15 (X : aX) (la : aLs) (st : List aV) (M : aM) : go X 71 15 la st M = kC X 71 (i_ldi 2 16 la st M) := evC ((pm71 X 15).trans rfl) la st M
theorem e71_16 (X : aX) (la : aLs) (st : List aV) (M : aM) : go X 71 16 la st M = kK X 71 27 2 19 4 la st M := evK ((pm71 X 16).trans rfl) la st M
theorem e71_19 (X : aX) (la : aLs) (st : List aV) (M : aM) : go X 71 19 la st M = kC X 71 (i_ife 27 22 la st M) := evC ((pm71 X 19).trans rfl) la st M
theorem e71_22 (X : aX) (la : aLs) (st : List aV) (M : aM) : go X 71 22 la st M = kC X 71 (i_ldi 1 23 la st M) := evC ((pm71 X 22).trans rfl) la st M
theorem e71_23 (X : aX) (la : aLs) (st : List aV) (M : aM) : go X 71 23 la st M = kC X 71 (i_ldi 2 24 la st M) := evC ((pm71 X 23).trans rfl) la st M
theorem e71_24 (X : aX) (la : aLs) (st : List aV) (M : aM) : go X 71 24 la st M = kC X 71 (i_cme 27 33 la st M) := evC ((pm71 X 24).trans rfl) la st M
theorem e71_27 (X : aX) (la : aLs) (st : List aV) (M : aM) : go X 71 27 la st M = kC X 71 (i_lda 0 28 la st M) := evC ((pm71 X 27).trans rfl) la st M
theorem e71_28 (X : aX) (la : aLs) (st : List aV) (M : aM) : go X 71 28 la st M = kC X 71 (i_ci (nI 0) 29 la st M) := evC ((pm71 X 28).trans rfl) la st M
theorem e71_29 (X : aX) (la : aLs) (st : List aV) (M : aM) : go X 71 29 la st M = kK X 71 101 2 32 6 la st M := evK ((pm71 X 29).trans rfl) la st M
theorem e71_32 (X : aX) (la : aLs) (st : List aV) (M : aM) : go X 71 32 la st M = i_irt st M := evR ((pm71 X 32).trans rfl) la st M
theorem e71_33 (X : aX) (la : aLs) (st : List aV) (M : aM) : go X 71 33 la st M = kC X 71 (i_lda 0 34 la st M) := evC ((pm71 X 33).trans rfl) la st M
theorem e71_34 (X : aX) (la : aLs) (st : List aV) (M : aM) : go X 71 34 la st M = kC X 71 (i_ci (nI 1) 35 la st M) := evC ((pm71 X 34).trans rfl) la st M
theorem e71_35 (X : aX) (la : aLs) (st : List aV) (M : aM) : go X 71 35 la st M = kC X 71 (i_ldi 1 36 la st M) := evC ((pm71 X 35).trans rfl) la st M
theorem e71_36 (X : aX) (la : aLs) (st : List aV) (M : aM) : go X 71 36 la st M = kC X 71 (i_bin (fun x y => x <<< (y &&& 31)) 37 la st M) := evC ((pm71 X 36).trans rfl) la st M
theorem e71_37 (X : aX) (la : aLs) (st : List aV) (M : aM) : go X 71 37 la st M = kC X 71 (i_ci (nI 1) 38 la st M) := evC ((pm71 X 37).trans rfl) la st M
theorem e71_38 (X : aX) (la : aLs) (st : List aV) (M : aM) : go X 71 38 la st M = kC X 71 (i_ldi 2 39 la st M) := evC ((pm71 X 38).trans rfl) la st M
theorem e71_39 (X : aX) (la : aLs) (st : List aV) (M : aM) : go X 71 39 la st M = kC X 71 (i_bin (fun x y => x <<< (y &&& 31)) 40 la st M) := evC ((pm71 X 39).trans rfl) la st M
theorem e71_40 (X : aX) (la : aLs) (st : List aV) (M : aM) : go X 71 40 la st M = kC X 71 (i_bin (fun x y => x ||| y) 41 la st M) := evC ((pm71 X 40).trans rfl) la st M
theorem e71_41 (X : aX) (la : aLs) (st : List aV) (M : aM) : go X 71 41 la st M = kK X 71 104 2 44 6 la st M := evK ((pm71 X 41).trans rfl) la st M
theorem e71_44 (X : aX) (la : aLs) (st : List aV) (M : aM) : go X 71 44 la st M = i_irt st M := evR ((pm71 X 44).trans rfl) la st M
theorem c71 (X : aX) (as : List aV) (M : aM) : cl X 71 as M = if cs as ≤ 3 then go X 71 0 (ent 3 as) [] M else none := rfl
theorem pm72 (X : aX) (pc : Nat) : pg X 72 pc = lk pc (tb72 X) := rfl
theorem e72_0 (X : aX) (la : aLs) (st : List aV) (M : aM) : go X 72 0 la st M = kC X 72 (i_ldi 1 1 la st M) := evC ((pm72 X 0).trans rfl) la st M
theorem e72_1 (X : aX) (la : aLs) (st : List aV) (M : aM) : go X 72 1 la st M = kC X 72 (i_ci (nI 0) 2 la st M) := evC ((pm72 X 1).trans rfl) la st M
theorem e72_2 (X : aX) (la : aLs) (st : List aV) (M : aM) : go X 72 2 la st M = kC X 72 (i_ci (nI 99999) 4 la st M) := evC ((pm72 X 2).trans rfl) la st M
theorem e72_4 (X : aX) (la : aLs) (st : List aV) (M : aM) : go X 72 4 la st M = kK X 72 102 3 7 0 la st M := evK ((pm72 X 4).trans rfl) la st M
theorem e72_7 (X : aX) (la : aLs) (st : List aV) (M : aM) : go X 72 7 la st M = kC X 72 (i_ife 10 16 la st M) := evC ((pm72 X 7).trans rfl) la st M
theorem e72_10 (X : aX) (la : aLs) (st : List aV) (M : aM) : go X 72 10 la st M = kC X 72 (i_lda 0 11 la st M) := evC ((pm72 X 10).trans rfl) la st M
theorem e72_11 (X : aX) (la : aLs) (st : List aV) (M : aM) : go X 72 11 la st M = kC X 72 (i_ci (nI 0) 12 la st M) := evC ((pm72 X 11).trans rfl) la st M
theorem e72_12 (X : aX) (la : aLs) (st : List aV) (M : aM) : go X 72 12 la st M = kK X 72 101 2 15 6 la st M := evK ((pm72 X 12).trans rfl) la st M
theorem e72_15 (X : aX) (la : aLs) (st : List aV) (M : aM) : go X 72 15 la st M = i_irt st M := evR ((pm72 X 15).trans rfl) la st M
theorem e72_16 (X : aX) (la : aLs) (st : List aV) (M : aM) : go X 72 16 la st M = kC X 72 (i_lda 0 17 la st M) := evC ((pm72 X 16).trans rfl) la st M
theorem e72_17 (X : aX) (la : aLs) (st : List aV) (M : aM) : go X 72 17 la st M = kC X 72 (i_get 5 1 20 la st M) := evC ((pm72 X 17).trans rfl) la st M
theorem e72_20 (X : aX) (la : aLs) (st : List aV) (M : aM) : go X 72 20 la st M = kC X 72 (i_lda 0 21 la st M) := evC ((pm72 X 20).trans rfl) la st M
theorem e72_21 (X : aX) (la : aLs) (st : List aV) (M : aM) : go X 72 21 la st M = kC X 72 (i_get 5 0 24 la st M) := evC ((pm72 X 21).trans rfl) la st M
theorem e72_24 (X : aX) (la : aLs) (st : List aV) (M : aM) : go X 72 24 la st M = kK X 72 26 2 27 4 la st M := evK ((pm72 X 24).trans rfl) la st M
theorem e72_27 (X : aX) (la : aLs) (st : List aV) (M : aM) : go X 72 27 la st M = kC X 72 (i_ci (nI 0) 28 la st M) := evC ((pm72 X 27).trans rfl) la st M
theorem e72_28 (X : aX) (la : aLs) (st : List aV) (M : aM) : go X 72 28 la st M = kC X 72 (i_sti 2 29 la st M) := evC ((pm72 X 28).trans rfl) la st M
theorem e72_29 (X : aX) (la : aLs) (st : List aV) (M : aM) : go X 72 29 la st M = kC X 72 (i_ldi 2 30 la st M) := evC ((pm72 X 29).trans rfl) la st M
theorem e72_30 (X : aX) (la : aLs) (st : List aV) (M : aM) : go X 72 30 la st M = kC X 72 (i_ci (nI 400) 33 la st M) := evC ((pm72 X 30).trans rfl) la st M
theorem e72_33 (X : aX) (la : aLs) (st : List aV) (M : aM) : go X 72 33 la st M = kC X 72 (i_cmg 63 36 la st M) := evC ((pm72 X 33).trans rfl) la st M
theorem e72_36 (X : aX) (la : aLs) (st : List aV) (M : aM) : go X 72 36 la st M = kC X 72 (i_lda 0 37 la st M) := evC ((pm72 X 36).trans rfl) la st M
theorem e72_37 (X : aX) (la : aLs) (st : List aV) (M : aM) : go X 72 37 la st M = kC X 72 (i_get 5 1 40 la st M) := evC ((pm72 X 37).trans rfl) la st M
theorem e72_40 (X : aX) (la : aLs) (st : List aV) (M : aM) : go X 72 40 la st M = kC X 72 (i_get 3 4 43 la st M) := evC ((pm72 X 40).trans rfl) la st M
theorem e72_43 (X : aX) (la : aLs) (st : List aV) (M : aM) : go X 72 43 la st M = kC X 72 (i_ldi 1 44 la st M) := evC ((pm72 X 43).trans rfl) la st M
theorem e72_44 (X : aX) (la : aLs) (st : List aV) (M : aM) : go X 72 44 la st M = kC X 72 (i_cml 49 47 la st M) := evC ((pm72 X 44).trans rfl) la st M
theorem e72_47 (X : aX) (la : aLs) (st : List aV) (M : aM) : go X 72 47 la st M = kC X 72 (i_ldi 2 48 la st M) := evC ((pm72 X 47).trans rfl) la st M
theorem e72_48 (X : aX) (la : aLs) (st : List aV) (M : aM) : go X 72 48 la st M = i_irt st M := evR ((pm72 X 48).trans rfl) la st M
theorem e72_49 (X : aX) (la : aLs) (st : List aV) (M : aM) : go X 72 49 la st M = kC X 72 (i_lda 0 50 la st M) := evC ((pm72 X 49).trans rfl) la st M
theorem e72_50 (X : aX) (la : aLs) (st : List aV) (M : aM) : go X 72 50 la st M = kC X 72 (i_get 5 1 53 la st M) := evC ((pm72 X 50).trans rfl) la st M
theorem e72_53 (X : aX) (la : aLs) (st : List aV) (M : aM) : go X 72 53 la st M = kC X 72 (i_ci (nI 1) 54 la st M) := evC ((pm72 X 53).trans rfl) la st M
theorem e72_54 (X : aX) (la : aLs) (st : List aV) (M : aM) : go X 72 54 la st M = kK X 72 46 2 57 4 la st M := evK ((pm72 X 54).trans rfl) la st M
theorem e72_57 (X : aX) (la : aLs) (st : List aV) (M : aM) : go X 72 57 la st M = kC X 72 (i_inc 2 (nI 1) 60 la st M) := evC ((pm72 X 57).trans rfl) la st M
theorem e72_60 (X : aX) (la : aLs) (st : List aV) (M : aM) : go X 72 60 la st M = kC X 72 (i_go 29 la st M) := evC ((pm72 X 60).trans rfl) la st M
theorem e72_63 (X : aX) (la : aLs) (st : List aV) (M : aM) : go X 72 63 la st M = kC X 72 (i_lda 0 64 la st M) := evC ((pm72 X 63).trans rfl) la st M
theorem e72_64 (X : aX) (la : aLs) (st : List aV) (M : aM) : go X 72 64 la st M = kC X 72 (i_ci (nI 3) 65 la st M) := evC ((pm72 X 64).trans rfl) la st M
theorem e72_65 (X : aX) (la : aLs) (st : List aV) (M : aM) : go X 72 65 la st M = kK X 72 101 2 68 6 la st M := evK ((pm72 X 65).trans rfl) la st M
theorem e72_68 (X : aX) (la : aLs) (st : List aV) (M : aM) : go X 72 68 la st M = i_irt st M := evR ((pm72 X 68).trans rfl) la st M
theorem c72 (X : aX) (as : List aV) (M : aM) : cl X 72 as M = if cs as ≤ 3 then go X 72 0 (ent 3 as) [] M else none := rfl
theorem pm73 (X : aX) (pc : Nat) : pg X 73 pc = lk pc (tb73 X) := rfl
theorem e73_0 (X : aX) (la : aLs) (st : List aV) (M : aM) : go X 73 0 la st M = kC X 73 (i_lda 0 1 la st M) := evC ((pm73 X 0).trans rfl) la st M
theorem e73_1 (X : aX) (la : aLs) (st : List aV) (M : aM) : go X 73 1 la st M = kC X 73 (i_get 5 0 4 la st M) := evC ((pm73 X 1).trans rfl) la st M
theorem e73_4 (X : aX) (la : aLs) (st : List aV) (M : aM) : go X 73 4 la st M = kC X 73 (i_ldi 1 5 la st M) := evC ((pm73 X 4).trans rfl) la st M
theorem e73_5 (X : aX) (la : aLs) (st : List aV) (M : aM) : go X 73 5 la st M = kK X 73 27 2 8 4 la st M := evK ((pm73 X 5).trans rfl) la st M
theorem e73_8 (X : aX) (la : aLs) (st : List aV) (M : aM) : go X 73 8 la st M = kC X 73 (i_ife 22 11 la st M) := evC ((pm73 X 8).trans rfl) la st M
theorem e73_11 (X : aX) (la : aLs) (st : List aV) (M : aM) : go X 73 11 la st M = kC X 73 (i_ldi 2 12 la st M) := evC ((pm73 X 11).trans rfl) la st M
theorem e73_12 (X : aX) (la : aLs) (st : List aV) (M : aM) : go X 73 12 la st M = kC X 73 (i_ci (nI 0) 13 la st M) := evC ((pm73 X 12).trans rfl) la st M
theorem e73_13 (X : aX) (la : aLs) (st : List aV) (M : aM) : go X 73 13 la st M = kC X 73 (i_ci (nI 9999) 16 la st M) := evC ((pm73 X 13).trans rfl) la st M
theorem e73_16 (X : aX) (la : aLs) (st : List aV) (M : aM) : go X 73 16 la st M = kK X 73 102 3 19 0 la st M := evK ((pm73 X 16).trans rfl) la st M
theorem e73_19 (X : aX) (la : aLs) (st : List aV) (M : aM) : go X 73 19 la st M = kC X 73 (i_ife 22 28 la st M) := evC ((pm73 X 19).trans rfl) la st M
theorem e73_22 (X : aX) (la : aLs) (st : List aV) (M : aM) : go X 73 22 la st M = kC X 73 (i_lda 0 23 la st M) := evC ((pm73 X 22).trans rfl) la st M
theorem e73_23 (X : aX) (la : aLs) (st : List aV) (M : aM) : go X 73 23 la st M = kC X 73 (i_ci (nI 0) 24 la st M) := evC ((pm73 X 23).trans rfl) la st M
theorem e73_24 (X : aX) (la : aLs) (st : List aV) (M : aM) : go X 73 24 la st M = kK X 73 101 2 27 6 la st M := evK ((pm73 X 24).trans rfl) la st M
theorem e73_27 (X : aX) (la : aLs) (st : List aV) (M : aM) : go X 73 27 la st M = i_irt st M := evR ((pm73 X 27).trans rfl) la st M
theorem e73_28 (X : aX) (la : aLs) (st : List aV) (M : aM) : go X 73 28 la st M = kC X 73 (i_lda 0 29 la st M) := evC ((pm73 X 28).trans rfl) la st M
theorem e73_29 (X : aX) (la : aLs) (st : List aV) (M : aM) : go X 73 29 la st M = kC X 73 (i_get 5 1 32 la st M) := evC ((pm73 X 29).trans rfl) la st M
theorem e73_32 (X : aX) (la : aLs) (st : List aV) (M : aM) : go X 73 32 la st M = kC X 73 (i_lda 0 33 la st M) := evC ((pm73 X 32).trans rfl) la st M
theorem e73_33 (X : aX) (la : aLs) (st : List aV) (M : aM) : go X 73 33 la st M = kC X 73 (i_get 5 0 36 la st M) := evC ((pm73 X 33).trans rfl) la st M
theorem e73_36 (X : aX) (la : aLs) (st : List aV) (M : aM) : go X 73 36 la st M = kK X 73 26 2 39 4 la st M := evK ((pm73 X 36).trans rfl) la st M
theorem e73_39 (X : aX) (la : aLs) (st : List aV) (M : aM) : go X 73 39 la st M = kC X 73 (i_ci (nI 0) 40 la st M) := evC ((pm73 X 39).trans rfl) la st M
theorem e73_40 (X : aX) (la : aLs) (st : List aV) (M : aM) : go X 73 40 la st M = kC X 73 (i_sti 3 41 la st M) := evC ((pm73 X 40).trans rfl) la st M
theorem e73_41 (X : aX) (la : aLs) (st : List aV) (M : aM) : go X 73 41 la st M = kC X 73 (i_ldi 3 42 la st M) := evC ((pm73 X 41).trans rfl) la st M
theorem e73_42 (X : aX) (la : aLs) (st : List aV) (M : aM) : go X 73 42 la st M = kC X 73 (i_ci (nI 400) 45 la st M) := evC ((pm73 X 42).trans rfl) la st M
theorem e73_45 (X : aX) (la : aLs) (st : List aV) (M : aM) : go X 73 45 la st M = kC X 73 (i_cmg 78 48 la st M) := evC ((pm73 X 45).trans rfl) la st M
theorem e73_48 (X : aX) (la : aLs) (st : List aV) (M : aM) : go X 73 48 la st M = kC X 73 (i_lda 0 49 la st M) := evC ((pm73 X 48).trans rfl) la st M
theorem e73_49 (X : aX) (la : aLs) (st : List aV) (M : aM) : go X 73 49 la st M = kC X 73 (i_get 5 1 52 la st M) := evC ((pm73 X 49).trans rfl) la st M
theorem e73_52 (X : aX) (la : aLs) (st : List aV) (M : aM) : go X 73 52 la st M = kC X 73 (i_ldi 1 53 la st M) := evC ((pm73 X 52).trans rfl) la st M
theorem e73_53 (X : aX) (la : aLs) (st : List aV) (M : aM) : go X 73 53 la st M = kC X 73 (i_ci (nI 9) 55 la st M) := evC ((pm73 X 53).trans rfl) la st M
theorem e73_55 (X : aX) (la : aLs) (st : List aV) (M : aM) : go X 73 55 la st M = kK X 73 30 3 58 4 la st M := evK ((pm73 X 55).trans rfl) la st M
theorem e73_58 (X : aX) (la : aLs) (st : List aV) (M : aM) : go X 73 58 la st M = kC X 73 (i_ldi 2 59 la st M) := evC ((pm73 X 58).trans rfl) la st M
theorem e73_59 (X : aX) (la : aLs) (st : List aV) (M : aM) : go X 73 59 la st M = kC X 73 (i_cml 64 62 la st M) := evC ((pm73 X 59).trans rfl) la st M
theorem e73_62 (X : aX) (la : aLs) (st : List aV) (M : aM) : go X 73 62 la st M = kC X 73 (i_ldi 3 63 la st M) := evC ((pm73 X 62).trans rfl) la st M
theorem e73_63 (X : aX) (la : aLs) (st : List aV) (M : aM) : go X 73 63 la st M = i_irt st M := evR ((pm73 X 63).trans rfl) la st M
theorem e73_64 (X : aX) (la : aLs) (st : List aV) (M : aM) : go X 73 64 la st M = kC X 73 (i_lda 0 65 la st M) := evC ((pm73 X 64).trans rfl) la st M
theorem e73_65 (X : aX) (la : aLs) (st : List aV) (M : aM) : go X 73 65 la st M = kC X 73 (i_get 5 1 68 la st M) := evC ((pm73 X 65).trans rfl) la st M
theorem e73_68 (X : aX) (la : aLs) (st : List aV) (M : aM) : go X 73 68 la st M = kC X 73 (i_ci (nI 1) 69 la st M) := evC ((pm73 X 68).trans rfl) la st M
theorem e73_69 (X : aX) (la : aLs) (st : List aV) (M : aM) : go X 73 69 la st M = kK X 73 46 2 72 4 la st M := evK ((pm73 X 69).trans rfl) la st M
theorem e73_72 (X : aX) (la : aLs) (st : List aV) (M : aM) : go X 73 72 la st M = kC X 73 (i_inc 3 (nI 1) 75 la st M) := evC ((pm73 X 72).trans rfl) la st M
theorem e73_75 (X : aX) (la : aLs) (st : List aV) (M : aM) : go X 73 75 la st M = kC X 73 (i_go 41 la st M) := evC ((pm73 X 75).trans rfl) la st M
theorem e73_78 (X : aX) (la : aLs) (st : List aV) (M : aM) : go X 73 78 la st M = kC X 73 (i_lda 0 79 la st M) := evC ((pm73 X 78).trans rfl) la st M
theorem e73_79 (X : aX) (la : aLs) (st : List aV) (M : aM) : go X 73 79 la st M = kC X 73 (i_ci (nI 3) 80 la st M) := evC ((pm73 X 79).trans rfl) la st M
theorem e73_80 (X : aX) (la : aLs) (st : List aV) (M : aM) : go X 73 80 la st M = kK X 73 101 2 83 6 la st M := evK ((pm73 X 80).trans rfl) la st M
theorem e73_83 (X : aX) (la : aLs) (st : List aV) (M : aM) : go X 73 83 la st M = i_irt st M := evR ((pm73 X 83).trans rfl) la st M
theorem c73 (X : aX) (as : List aV) (M : aM) : cl X 73 as M = if cs as ≤ 4 then go X 73 0 (ent 4 as) [] M else none := rfl
theorem pm74 (X : aX) (pc : Nat) : pg X 74 pc = lk pc (tb74 X) := rfl
theorem e74_0 (X : aX) (la : aLs) (st : List aV) (M : aM) : go X 74 0 la st M = kC X 74 (i_lda 0 1 la st M) := evC ((pm74 X 0).trans rfl) la st M
theorem e74_1 (X : aX) (la : aLs) (st : List aV) (M : aM) : go X 74 1 la st M = kC X 74 (i_get 5 0 4 la st M) := evC ((pm74 X 1).trans rfl) la st M
theorem e74_4 (X : aX) (la : aLs) (st : List aV) (M : aM) : go X 74 4 la st M = kC X 74 (i_ldi 1 5 la st M) := evC ((pm74 X 4).trans rfl) la st M
theorem e74_5 (X : aX) (la : aLs) (st : List aV) (M : aM) : go X 74 5 la st M = kK X 74 27 2 8 4 la st M := evK ((pm74 X 5).trans rfl) la st M
theorem e74_8 (X : aX) (la : aLs) (st : List aV) (M : aM) : go X 74 8 la st M = kC X 74 (i_ife 21 11 la st M) := evC ((pm74 X 8).trans rfl) la st M
theorem e74_11 (X : aX) (la : aLs) (st : List aV) (M : aM) : go X 74 11 la st M = kC X 74 (i_ldi 2 12 la st M) := evC ((pm74 X 11).trans rfl) la st M
theorem e74_12 (X : aX) (la : aLs) (st : List aV) (M : aM) : go X 74 12 la st M = kC X 74 (i_ci (nI 0) 13 la st M) := evC ((pm74 X 12).trans rfl) la st M
theorem e74_13 (X : aX) (la : aLs) (st : List aV) (M : aM) : go X 74 13 la st M = kC X 74 (i_ci (nI 120) 15 la st M) := evC ((pm74 X 13).trans rfl) la st M
theorem e74_15 (X : aX) (la : aLs) (st : List aV) (M : aM) : go X 74 15 la st M = kK X 74 102 3 18 0 la st M := evK ((pm74 X 15).trans rfl) la st M
theorem e74_18 (X : aX) (la : aLs) (st : List aV) (M : aM) : go X 74 18 la st M = kC X 74 (i_ife 21 27 la st M) := evC ((pm74 X 18).trans rfl) la st M
theorem e74_21 (X : aX) (la : aLs) (st : List aV) (M : aM) : go X 74 21 la st M = kC X 74 (i_lda 0 22 la st M) := evC ((pm74 X 21).trans rfl) la st M
theorem e74_22 (X : aX) (la : aLs) (st : List aV) (M : aM) : go X 74 22 la st M = kC X 74 (i_ci (nI 0) 23 la st M) := evC ((pm74 X 22).trans rfl) la st M
theorem e74_23 (X : aX) (la : aLs) (st : List aV) (M : aM) : go X 74 23 la st M = kK X 74 101 2 26 6 la st M := evK ((pm74 X 23).trans rfl) la st M
theorem e74_26 (X : aX) (la : aLs) (st : List aV) (M : aM) : go X 74 26 la st M = i_irt st M := evR ((pm74 X 26).trans rfl) la st M
theorem e74_27 (X : aX) (la : aLs) (st : List aV) (M : aM) : go X 74 27 la st M = kC X 74 (i_ci (nI 0) 28 la st M) := evC ((pm74 X 27).trans rfl) la st M
theorem e74_28 (X : aX) (la : aLs) (st : List aV) (M : aM) : go X 74 28 la st M = kC X 74 (i_sti 3 29 la st M) := evC ((pm74 X 28).trans rfl) la st M
theorem e74_29 (X : aX) (la : aLs) (st : List aV) (M : aM) : go X 74 29 la st M = kC X 74 (i_ci (-1) 30 la st M) := evC ((pm74 X 29).trans rfl) la st M
theorem e74_30 (X : aX) (la : aLs) (st : List aV) (M : aM) : go X 74 30 la st M = kC X 74 (i_sti 4 32 la st M) := evC ((pm74 X 30).trans rfl) la st M
theorem e74_32 (X : aX) (la : aLs) (st : List aV) (M : aM) : go X 74 32 la st M = kC X 74 (i_ci (nI 0) 33 la st M) := evC ((pm74 X 32).trans rfl) la st M
theorem e74_33 (X : aX) (la : aLs) (st : List aV) (M : aM) : go X 74 33 la st M = kC X 74 (i_sti 5 35 la st M) := evC ((pm74 X 33).trans rfl) la st M
theorem e74_35 (X : aX) (la : aLs) (st : List aV) (M : aM) : go X 74 35 la st M = kC X 74 (i_ldi 5 37 la st M) := evC ((pm74 X 35).trans rfl) la st M
theorem e74_37 (X : aX) (la : aLs) (st : List aV) (M : aM) : go X 74 37 la st M = kC X 74 (i_ci (nI 60) 39 la st M) := evC ((pm74 X 37).trans rfl) la st M
theorem e74_39 (X : aX) (la : aLs) (st : List aV) (M : aM) : go X 74 39 la st M = kC X 74 (i_cml 42 82 la st M) := evC ((pm74 X 39).trans rfl) la st M
theorem e74_42 (X : aX) (la : aLs) (st : List aV) (M : aM) : go X 74 42 la st M = kC X 74 (i_lda 0 43 la st M) := evC ((pm74 X 42).trans rfl) la st M
theorem e74_43 (X : aX) (la : aLs) (st : List aV) (M : aM) : go X 74 43 la st M = kC X 74 (i_ldi 1 44 la st M) := evC ((pm74 X 43).trans rfl) la st M
theorem e74_44 (X : aX) (la : aLs) (st : List aV) (M : aM) : go X 74 44 la st M = kC X 74 (i_ci (nI 1) 45 la st M) := evC ((pm74 X 44).trans rfl) la st M
theorem e74_45 (X : aX) (la : aLs) (st : List aV) (M : aM) : go X 74 45 la st M = kC X 74 (i_ldi 5 47 la st M) := evC ((pm74 X 45).trans rfl) la st M
theorem e74_47 (X : aX) (la : aLs) (st : List aV) (M : aM) : go X 74 47 la st M = kC X 74 (i_ldi 2 48 la st M) := evC ((pm74 X 47).trans rfl) la st M
theorem e74_48 (X : aX) (la : aLs) (st : List aV) (M : aM) : go X 74 48 la st M = kK X 74 105 5 51 6 la st M := evK ((pm74 X 48).trans rfl) la st M
theorem e74_51 (X : aX) (la : aLs) (st : List aV) (M : aM) : go X 74 51 la st M = kC X 74 (i_lda 0 52 la st M) := evC ((pm74 X 51).trans rfl) la st M
theorem e74_52 (X : aX) (la : aLs) (st : List aV) (M : aM) : go X 74 52 la st M = kC X 74 (i_get 5 1 55 la st M) := evC ((pm74 X 52).trans rfl) la st M
theorem e74_55 (X : aX) (la : aLs) (st : List aV) (M : aM) : go X 74 55 la st M = kC X 74 (i_ci (nI 9) 57 la st M) := evC ((pm74 X 55).trans rfl) la st M
theorem e74_57 (X : aX) (la : aLs) (st : List aV) (M : aM) : go X 74 57 la st M = kK X 74 40 2 60 4 la st M := evK ((pm74 X 57).trans rfl) la st M
theorem e74_60 (X : aX) (la : aLs) (st : List aV) (M : aM) : go X 74 60 la st M = kC X 74 (i_sti 6 62 la st M) := evC ((pm74 X 60).trans rfl) la st M
theorem e74_62 (X : aX) (la : aLs) (st : List aV) (M : aM) : go X 74 62 la st M = kC X 74 (i_ldi 6 64 la st M) := evC ((pm74 X 62).trans rfl) la st M
theorem e74_64 (X : aX) (la : aLs) (st : List aV) (M : aM) : go X 74 64 la st M = kC X 74 (i_ldi 4 66 la st M) := evC ((pm74 X 64).trans rfl) la st M
theorem e74_66 (X : aX) (la : aLs) (st : List aV) (M : aM) : go X 74 66 la st M = kC X 74 (i_cmg 69 76 la st M) := evC ((pm74 X 66).trans rfl) la st M
theorem e74_69 (X : aX) (la : aLs) (st : List aV) (M : aM) : go X 74 69 la st M = kC X 74 (i_ldi 6 71 la st M) := evC ((pm74 X 69).trans rfl) la st M
theorem e74_71 (X : aX) (la : aLs) (st : List aV) (M : aM) : go X 74 71 la st M = kC X 74 (i_sti 4 73 la st M) := evC ((pm74 X 71).trans rfl) la st M
theorem e74_73 (X : aX) (la : aLs) (st : List aV) (M : aM) : go X 74 73 la st M = kC X 74 (i_ldi 5 75 la st M) := evC ((pm74 X 73).trans rfl) la st M
theorem e74_75 (X : aX) (la : aLs) (st : List aV) (M : aM) : go X 74 75 la st M = kC X 74 (i_sti 3 76 la st M) := evC ((pm74 X 75).trans rfl) la st M
theorem e74_76 (X : aX) (la : aLs) (st : List aV) (M : aM) : go X 74 76 la st M = kC X 74 (i_inc 5 (nI 1) 79 la st M) := evC ((pm74 X 76).trans rfl) la st M
theorem e74_79 (X : aX) (la : aLs) (st : List aV) (M : aM) : go X 74 79 la st M = kC X 74 (i_go 35 la st M) := evC ((pm74 X 79).trans rfl) la st M
theorem e74_82 (X : aX) (la : aLs) (st : List aV) (M : aM) : go X 74 82 la st M = kC X 74 (i_ldi 3 83 la st M) := evC ((pm74 X 82).trans rfl) la st M
theorem e74_83 (X : aX) (la : aLs) (st : List aV) (M : aM) : go X 74 83 la st M = i_irt st M := evR ((pm74 X 83).trans rfl) la st M
theorem c74 (X : aX) (as : List aV) (M : aM) : cl X 74 as M = if cs as ≤ 7 then go X 74 0 (ent 7 as) [] M else none := rfl
theorem pm75 (X : aX) (pc : Nat) : pg X 75 pc = lk pc (tb75 X) := rfl
theorem e75_0 (X : aX) (la : aLs) (st : List aV) (M : aM) : go X 75 0 la st M = kC X 75 (i_lda 0 1 la st M) := evC ((pm75 X 0).trans rfl) la st M
theorem e75_1 (X : aX) (la : aLs) (st : List aV) (M : aM) : go X 75 1 la st M = kC X 75 (i_get 5 0 4 la st M) := evC ((pm75 X 1).trans rfl) la st M
theorem e75_4 (X : aX) (la : aLs) (st : List aV) (M : aM) : go X 75 4 la st M = kC X 75 (i_ldi 1 5 la st M) := evC ((pm75 X 4).trans rfl) la st M
theorem e75_5 (X : aX) (la : aLs) (st : List aV) (M : aM) : go X 75 5 la st M = kK X 75 27 2 8 4 la st M := evK ((pm75 X 5).trans rfl) la st M
theorem e75_8 (X : aX) (la : aLs) (st : List aV) (M : aM) : go X 75 8 la st M = kC X 75 (i_ife 21 11 la st M) := evC ((pm75 X 8).trans rfl) la st M
theorem e75_11 (X : aX) (la : aLs) (st : List aV) (M : aM) : go X 75 11 la st M = kC X 75 (i_ldi 2 12 la st M) := evC ((pm75 X 11).trans rfl) la st M
theorem e75_12 (X : aX) (la : aLs) (st : List aV) (M : aM) : go X 75 12 la st M = kC X 75 (i_ci (nI 0) 13 la st M) := evC ((pm75 X 12).trans rfl) la st M
theorem e75_13 (X : aX) (la : aLs) (st : List aV) (M : aM) : go X 75 13 la st M = kC X 75 (i_ci (nI 120) 15 la st M) := evC ((pm75 X 13).trans rfl) la st M
theorem e75_15 (X : aX) (la : aLs) (st : List aV) (M : aM) : go X 75 15 la st M = kK X 75 102 3 18 0 la st M := evK ((pm75 X 15).trans rfl) la st M
theorem e75_18 (X : aX) (la : aLs) (st : List aV) (M : aM) : go X 75 18 la st M = kC X 75 (i_ife 21 27 la st M) := evC ((pm75 X 18).trans rfl) la st M
theorem e75_21 (X : aX) (la : aLs) (st : List aV) (M : aM) : go X 75 21 la st M = kC X 75 (i_lda 0 22 la st M) := evC ((pm75 X 21).trans rfl) la st M
theorem e75_22 (X : aX) (la : aLs) (st : List aV) (M : aM) : go X 75 22 la st M = kC X 75 (i_ci (nI 0) 23 la st M) := evC ((pm75 X 22).trans rfl) la st M
theorem e75_23 (X : aX) (la : aLs) (st : List aV) (M : aM) : go X 75 23 la st M = kK X 75 101 2 26 6 la st M := evK ((pm75 X 23).trans rfl) la st M
theorem e75_26 (X : aX) (la : aLs) (st : List aV) (M : aM) : go X 75 26 la st M = i_irt st M := evR ((pm75 X 26).trans rfl) la st M
theorem e75_27 (X : aX) (la : aLs) (st : List aV) (M : aM) : go X 75 27 la st M = kC X 75 (i_lda 0 28 la st M) := evC ((pm75 X 27).trans rfl) la st M
theorem e75_28 (X : aX) (la : aLs) (st : List aV) (M : aM) : go X 75 28 la st M = kC X 75 (i_ldi 1 29 la st M) := evC ((pm75 X 28).trans rfl) la st M
theorem e75_29 (X : aX) (la : aLs) (st : List aV) (M : aM) : go X 75 29 la st M = kC X 75 (i_ci (nI 2) 30 la st M) := evC ((pm75 X 29).trans rfl) la st M
theorem e75_30 (X : aX) (la : aLs) (st : List aV) (M : aM) : go X 75 30 la st M = kC X 75 (i_ci (-1) 31 la st M) := evC ((pm75 X 30).trans rfl) la st M
theorem e75_31 (X : aX) (la : aLs) (st : List aV) (M : aM) : go X 75 31 la st M = kC X 75 (i_ldi 2 32 la st M) := evC ((pm75 X 31).trans rfl) la st M
theorem e75_32 (X : aX) (la : aLs) (st : List aV) (M : aM) : go X 75 32 la st M = kK X 75 105 5 35 6 la st M := evK ((pm75 X 32).trans rfl) la st M
theorem e75_35 (X : aX) (la : aLs) (st : List aV) (M : aM) : go X 75 35 la st M = kC X 75 (i_ci (-1) 36 la st M) := evC ((pm75 X 35).trans rfl) la st M
theorem e75_36 (X : aX) (la : aLs) (st : List aV) (M : aM) : go X 75 36 la st M = kC X 75 (i_sti 3 37 la st M) := evC ((pm75 X 36).trans rfl) la st M
theorem e75_37 (X : aX) (la : aLs) (st : List aV) (M : aM) : go X 75 37 la st M = kC X 75 (i_lda 0 38 la st M) := evC ((pm75 X 37).trans rfl) la st M
theorem e75_38 (X : aX) (la : aLs) (st : List aV) (M : aM) : go X 75 38 la st M = kC X 75 (i_get 5 1 41 la st M) := evC ((pm75 X 38).trans rfl) la st M
theorem e75_41 (X : aX) (la : aLs) (st : List aV) (M : aM) : go X 75 41 la st M = kC X 75 (i_ci (nI 9) 43 la st M) := evC ((pm75 X 41).trans rfl) la st M
theorem e75_43 (X : aX) (la : aLs) (st : List aV) (M : aM) : go X 75 43 la st M = kK X 75 40 2 46 4 la st M := evK ((pm75 X 43).trans rfl) la st M
theorem e75_46 (X : aX) (la : aLs) (st : List aV) (M : aM) : go X 75 46 la st M = kC X 75 (i_sti 4 48 la st M) := evC ((pm75 X 46).trans rfl) la st M
theorem e75_48 (X : aX) (la : aLs) (st : List aV) (M : aM) : go X 75 48 la st M = kC X 75 (i_lda 0 49 la st M) := evC ((pm75 X 48).trans rfl) la st M
theorem e75_49 (X : aX) (la : aLs) (st : List aV) (M : aM) : go X 75 49 la st M = kC X 75 (i_get 5 0 52 la st M) := evC ((pm75 X 49).trans rfl) la st M
theorem e75_52 (X : aX) (la : aLs) (st : List aV) (M : aM) : go X 75 52 la st M = kC X 75 (i_get 3 2 55 la st M) := evC ((pm75 X 52).trans rfl) la st M
theorem e75_55 (X : aX) (la : aLs) (st : List aV) (M : aM) : go X 75 55 la st M = kC X 75 (i_ci (nI 1) 56 la st M) := evC ((pm75 X 55).trans rfl) la st M
theorem e75_56 (X : aX) (la : aLs) (st : List aV) (M : aM) : go X 75 56 la st M = kC X 75 (i_bin (fun x y => x - y) 57 la st M) := evC ((pm75 X 56).trans rfl) la st M
theorem e75_57 (X : aX) (la : aLs) (st : List aV) (M : aM) : go X 75 57 la st M = kC X 75 (i_sti 5 59 la st M) := evC ((pm75 X 57).trans rfl) la st M
theorem e75_59 (X : aX) (la : aLs) (st : List aV) (M : aM) : go X 75 59 la st M = kC X 75 (i_ldi 5 61 la st M) := evC ((pm75 X 59).trans rfl) la st M
theorem e75_61 (X : aX) (la : aLs) (st : List aV) (M : aM) : go X 75 61 la st M = kC X 75 (i_ifl 110 64 la st M) := evC ((pm75 X 61).trans rfl) la st M
theorem e75_64 (X : aX) (la : aLs) (st : List aV) (M : aM) : go X 75 64 la st M = kC X 75 (i_ldi 5 66 la st M) := evC ((pm75 X 64).trans rfl) la st M
theorem e75_66 (X : aX) (la : aLs) (st : List aV) (M : aM) : go X 75 66 la st M = kC X 75 (i_ldi 1 67 la st M) := evC ((pm75 X 66).trans rfl) la st M
theorem e75_67 (X : aX) (la : aLs) (st : List aV) (M : aM) : go X 75 67 la st M = kC X 75 (i_cme 104 70 la st M) := evC ((pm75 X 67).trans rfl) la st M
theorem e75_70 (X : aX) (la : aLs) (st : List aV) (M : aM) : go X 75 70 la st M = kC X 75 (i_lda 0 71 la st M) := evC ((pm75 X 70).trans rfl) la st M
theorem e75_71 (X : aX) (la : aLs) (st : List aV) (M : aM) : go X 75 71 la st M = kC X 75 (i_ldi 1 72 la st M) := evC ((pm75 X 71).trans rfl) la st M
theorem e75_72 (X : aX) (la : aLs) (st : List aV) (M : aM) : go X 75 72 la st M = kC X 75 (i_ci (nI 2) 73 la st M) := evC ((pm75 X 72).trans rfl) la st M
theorem e75_73 (X : aX) (la : aLs) (st : List aV) (M : aM) : go X 75 73 la st M = kC X 75 (i_ldi 5 75 la st M) := evC ((pm75 X 73).trans rfl) la st M
theorem e75_75 (X : aX) (la : aLs) (st : List aV) (M : aM) : go X 75 75 la st M = kC X 75 (i_ldi 2 76 la st M) := evC ((pm75 X 75).trans rfl) la st M
theorem e75_76 (X : aX) (la : aLs) (st : List aV) (M : aM) : go X 75 76 la st M = kK X 75 105 5 79 6 la st M := evK ((pm75 X 76).trans rfl) la st M
theorem e75_79 (X : aX) (la : aLs) (st : List aV) (M : aM) : go X 75 79 la st M = kC X 75 (i_lda 0 80 la st M) := evC ((pm75 X 79).trans rfl) la st M
theorem e75_80 (X : aX) (la : aLs) (st : List aV) (M : aM) : go X 75 80 la st M = kC X 75 (i_get 5 1 83 la st M) := evC ((pm75 X 80).trans rfl) la st M
theorem e75_83 (X : aX) (la : aLs) (st : List aV) (M : aM) : go X 75 83 la st M = kC X 75 (i_ci (nI 9) 85 la st M) := evC ((pm75 X 83).trans rfl) la st M
theorem e75_85 (X : aX) (la : aLs) (st : List aV) (M : aM) : go X 75 85 la st M = kK X 75 40 2 88 4 la st M := evK ((pm75 X 85).trans rfl) la st M
theorem e75_88 (X : aX) (la : aLs) (st : List aV) (M : aM) : go X 75 88 la st M = kC X 75 (i_sti 6 90 la st M) := evC ((pm75 X 88).trans rfl) la st M
theorem e75_90 (X : aX) (la : aLs) (st : List aV) (M : aM) : go X 75 90 la st M = kC X 75 (i_ldi 6 92 la st M) := evC ((pm75 X 90).trans rfl) la st M
theorem e75_92 (X : aX) (la : aLs) (st : List aV) (M : aM) : go X 75 92 la st M = kC X 75 (i_ldi 4 94 la st M) := evC ((pm75 X 92).trans rfl) la st M
theorem e75_94 (X : aX) (la : aLs) (st : List aV) (M : aM) : go X 75 94 la st M = kC X 75 (i_cml 104 97 la st M) := evC ((pm75 X 94).trans rfl) la st M
theorem e75_97 (X : aX) (la : aLs) (st : List aV) (M : aM) : go X 75 97 la st M = kC X 75 (i_ldi 6 99 la st M) := evC ((pm75 X 97).trans rfl) la st M
theorem e75_99 (X : aX) (la : aLs) (st : List aV) (M : aM) : go X 75 99 la st M = kC X 75 (i_sti 4 101 la st M) := evC ((pm75 X 99).trans rfl) la st M
theorem e75_101 (X : aX) (la : aLs) (st : List aV) (M : aM) : go X 75 101 la st M = kC X 75 (i_ldi 5 103 la st M) := evC ((pm75 X 101).trans rfl) la st M
theorem e75_103 (X : aX) (la : aLs) (st : List aV) (M : aM) : go X 75 103 la st M = kC X 75 (i_sti 3 104 la st M) := evC ((pm75 X 103).trans rfl) la st M
theorem e75_104 (X : aX) (la : aLs) (st : List aV) (M : aM) : go X 75 104 la st M = kC X 75 (i_inc 5 (-1) 107 la st M) := evC ((pm75 X 104).trans rfl) la st M
theorem e75_107 (X : aX) (la : aLs) (st : List aV) (M : aM) : go X 75 107 la st M = kC X 75 (i_go 59 la st M) := evC ((pm75 X 107).trans rfl) la st M
theorem e75_110 (X : aX) (la : aLs) (st : List aV) (M : aM) : go X 75 110 la st M = kC X 75 (i_ldi 3 111 la st M) := evC ((pm75 X 110).trans rfl) la st M
theorem e75_111 (X : aX) (la : aLs) (st : List aV) (M : aM) : go X 75 111 la st M = i_irt st M := evR ((pm75 X 111).trans rfl) la st M
theorem c75 (X : aX) (as : List aV) (M : aM) : cl X 75 as M = if cs as ≤ 7 then go X 75 0 (ent 7 as) [] M else none := rfl
theorem pm76 (X : aX) (pc : Nat) : pg X 76 pc = lk pc (tb76 X) := rfl
theorem e76_0 (X : aX) (la : aLs) (st : List aV) (M : aM) : go X 76 0 la st M = kC X 76 (i_lda 0 1 la st M) := evC ((pm76 X 0).trans rfl) la st M
theorem e76_1 (X : aX) (la : aLs) (st : List aV) (M : aM) : go X 76 1 la st M = kC X 76 (i_get 5 0 4 la st M) := evC ((pm76 X 1).trans rfl) la st M
theorem e76_4 (X : aX) (la : aLs) (st : List aV) (M : aM) : go X 76 4 la st M = kC X 76 (i_ldi 1 5 la st M) := evC ((pm76 X 4).trans rfl) la st M
theorem e76_5 (X : aX) (la : aLs) (st : List aV) (M : aM) : go X 76 5 la st M = kK X 76 27 2 8 4 la st M := evK ((pm76 X 5).trans rfl) la st M
theorem e76_8 (X : aX) (la : aLs) (st : List aV) (M : aM) : go X 76 8 la st M = kC X 76 (i_ife 21 11 la st M) := evC ((pm76 X 8).trans rfl) la st M
theorem e76_11 (X : aX) (la : aLs) (st : List aV) (M : aM) : go X 76 11 la st M = kC X 76 (i_ldi 2 12 la st M) := evC ((pm76 X 11).trans rfl) la st M
theorem e76_12 (X : aX) (la : aLs) (st : List aV) (M : aM) : go X 76 12 la st M = kC X 76 (i_ci (nI 0) 13 la st M) := evC ((pm76 X 12).trans rfl) la st M
theorem e76_13 (X : aX) (la : aLs) (st : List aV) (M : aM) : go X 76 13 la st M = kC X 76 (i_ci (nI 120) 15 la st M) := evC ((pm76 X 13).trans rfl) la st M
theorem e76_15 (X : aX) (la : aLs) (st : List aV) (M : aM) : go X 76 15 la st M = kK X 76 102 3 18 0 la st M := evK ((pm76 X 15).trans rfl) la st M
theorem e76_18 (X : aX) (la : aLs) (st : List aV) (M : aM) : go X 76 18 la st M = kC X 76 (i_ife 21 27 la st M) := evC ((pm76 X 18).trans rfl) la st M
theorem e76_21 (X : aX) (la : aLs) (st : List aV) (M : aM) : go X 76 21 la st M = kC X 76 (i_lda 0 22 la st M) := evC ((pm76 X 21).trans rfl) la st M
theorem e76_22 (X : aX) (la : aLs) (st : List aV) (M : aM) : go X 76 22 la st M = kC X 76 (i_ci (nI 0) 23 la st M) := evC ((pm76 X 22).trans rfl) la st M
theorem e76_23 (X : aX) (la : aLs) (st : List aV) (M : aM) : go X 76 23 la st M = kK X 76 101 2 26 6 la st M := evK ((pm76 X 23).trans rfl) la st M
theorem e76_26 (X : aX) (la : aLs) (st : List aV) (M : aM) : go X 76 26 la st M = i_irt st M := evR ((pm76 X 26).trans rfl) la st M
theorem e76_27 (X : aX) (la : aLs) (st : List aV) (M : aM) : go X 76 27 la st M = kC X 76 (i_ci (nI 0) 28 la st M) := evC ((pm76 X 27).trans rfl) la st M
theorem e76_28 (X : aX) (la : aLs) (st : List aV) (M : aM) : go X 76 28 la st M = kC X 76 (i_sti 3 29 la st M) := evC ((pm76 X 28).trans rfl) la st M
theorem e76_29 (X : aX) (la : aLs) (st : List aV) (M : aM) : go X 76 29 la st M = kC X 76 (i_ci (-1) 30 la st M) := evC ((pm76 X 29).trans rfl) la st M
theorem e76_30 (X : aX) (la : aLs) (st : List aV) (M : aM) : go X 76 30 la st M = kC X 76 (i_sti 4 32 la st M) := evC ((pm76 X 30).trans rfl) la st M
theorem e76_32 (X : aX) (la : aLs) (st : List aV) (M : aM) : go X 76 32 la st M = kC X 76 (i_ci (nI 0) 33 la st M) := evC ((pm76 X 32).trans rfl) la st M
theorem e76_33 (X : aX) (la : aLs) (st : List aV) (M : aM) : go X 76 33 la st M = kC X 76 (i_sti 5 35 la st M) := evC ((pm76 X 33).trans rfl) la st M
theorem e76_35 (X : aX) (la : aLs) (st : List aV) (M : aM) : go X 76 35 la st M = kC X 76 (i_ldi 5 37 la st M) := evC ((pm76 X 35).trans rfl) la st M
theorem e76_37 (X : aX) (la : aLs) (st : List aV) (M : aM) : go X 76 37 la st M = kC X 76 (i_ci (nI 6) 39 la st M) := evC ((pm76 X 37).trans rfl) la st M
theorem e76_39 (X : aX) (la : aLs) (st : List aV) (M : aM) : go X 76 39 la st M = kC X 76 (i_cmg 83 42 la st M) := evC ((pm76 X 39).trans rfl) la st M
theorem e76_42 (X : aX) (la : aLs) (st : List aV) (M : aM) : go X 76 42 la st M = kC X 76 (i_lda 0 43 la st M) := evC ((pm76 X 42).trans rfl) la st M
theorem e76_43 (X : aX) (la : aLs) (st : List aV) (M : aM) : go X 76 43 la st M = kC X 76 (i_ldi 1 44 la st M) := evC ((pm76 X 43).trans rfl) la st M
theorem e76_44 (X : aX) (la : aLs) (st : List aV) (M : aM) : go X 76 44 la st M = kC X 76 (i_ci (nI 0) 45 la st M) := evC ((pm76 X 44).trans rfl) la st M
theorem e76_45 (X : aX) (la : aLs) (st : List aV) (M : aM) : go X 76 45 la st M = kC X 76 (i_ldi 5 47 la st M) := evC ((pm76 X 45).trans rfl) la st M
theorem e76_47 (X : aX) (la : aLs) (st : List aV) (M : aM) : go X 76 47 la st M = kC X 76 (i_ldi 2 48 la st M) := evC ((pm76 X 47).trans rfl) la st M
theorem e76_48 (X : aX) (la : aLs) (st : List aV) (M : aM) : go X 76 48 la st M = kK X 76 105 5 51 6 la st M := evK ((pm76 X 48).trans rfl) la st M
theorem e76_51 (X : aX) (la : aLs) (st : List aV) (M : aM) : go X 76 51 la st M = kC X 76 (i_lda 0 52 la st M) := evC ((pm76 X 51).trans rfl) la st M
theorem e76_52 (X : aX) (la : aLs) (st : List aV) (M : aM) : go X 76 52 la st M = kC X 76 (i_get 5 1 55 la st M) := evC ((pm76 X 52).trans rfl) la st M
theorem e76_55 (X : aX) (la : aLs) (st : List aV) (M : aM) : go X 76 55 la st M = kC X 76 (i_ldi 1 56 la st M) := evC ((pm76 X 55).trans rfl) la st M
theorem e76_56 (X : aX) (la : aLs) (st : List aV) (M : aM) : go X 76 56 la st M = kC X 76 (i_ci (nI 9) 58 la st M) := evC ((pm76 X 56).trans rfl) la st M
theorem e76_58 (X : aX) (la : aLs) (st : List aV) (M : aM) : go X 76 58 la st M = kK X 76 30 3 61 4 la st M := evK ((pm76 X 58).trans rfl) la st M
theorem e76_61 (X : aX) (la : aLs) (st : List aV) (M : aM) : go X 76 61 la st M = kC X 76 (i_sti 6 63 la st M) := evC ((pm76 X 61).trans rfl) la st M
theorem e76_63 (X : aX) (la : aLs) (st : List aV) (M : aM) : go X 76 63 la st M = kC X 76 (i_ldi 6 65 la st M) := evC ((pm76 X 63).trans rfl) la st M
theorem e76_65 (X : aX) (la : aLs) (st : List aV) (M : aM) : go X 76 65 la st M = kC X 76 (i_ldi 4 67 la st M) := evC ((pm76 X 65).trans rfl) la st M
theorem e76_67 (X : aX) (la : aLs) (st : List aV) (M : aM) : go X 76 67 la st M = kC X 76 (i_cmg 70 77 la st M) := evC ((pm76 X 67).trans rfl) la st M
theorem e76_70 (X : aX) (la : aLs) (st : List aV) (M : aM) : go X 76 70 la st M = kC X 76 (i_ldi 6 72 la st M) := evC ((pm76 X 70).trans rfl) la st M
theorem e76_72 (X : aX) (la : aLs) (st : List aV) (M : aM) : go X 76 72 la st M = kC X 76 (i_sti 4 74 la st M) := evC ((pm76 X 72).trans rfl) la st M
theorem e76_74 (X : aX) (la : aLs) (st : List aV) (M : aM) : go X 76 74 la st M = kC X 76 (i_ldi 5 76 la st M) := evC ((pm76 X 74).trans rfl) la st M
theorem e76_76 (X : aX) (la : aLs) (st : List aV) (M : aM) : go X 76 76 la st M = kC X 76 (i_sti 3 77 la st M) := evC ((pm76 X 76).trans rfl) la st M
theorem e76_77 (X : aX) (la : aLs) (st : List aV) (M : aM) : go X 76 77 la st M = kC X 76 (i_inc 5 (nI 1) 80 la st M) := evC ((pm76 X 77).trans rfl) la st M
theorem e76_80 (X : aX) (la : aLs) (st : List aV) (M : aM) : go X 76 80 la st M = kC X 76 (i_go 35 la st M) := evC ((pm76 X 80).trans rfl) la st M
theorem e76_83 (X : aX) (la : aLs) (st : List aV) (M : aM) : go X 76 83 la st M = kC X 76 (i_ldi 3 84 la st M) := evC ((pm76 X 83).trans rfl) la st M
theorem e76_84 (X : aX) (la : aLs) (st : List aV) (M : aM) : go X 76 84 la st M = i_irt st M := evR ((pm76 X 84).trans rfl) la st M
theorem c76 (X : aX) (as : List aV) (M : aM) : cl X 76 as M = if cs as ≤ 7 then go X 76 0 (ent 7 as) [] M else none := rfl
theorem pm77 (X : aX) (pc : Nat) : pg X 77 pc = lk pc (tb77 X) := rfl
theorem e77_0 (X : aX) (la : aLs) (st : List aV) (M : aM) : go X 77 0 la st M = kC X 77 (i_lda 0 1 la st M) := evC ((pm77 X 0).trans rfl) la st M
theorem e77_1 (X : aX) (la : aLs) (st : List aV) (M : aM) : go X 77 1 la st M = kC X 77 (i_get 5 0 4 la st M) := evC ((pm77 X 1).trans rfl) la st M
theorem e77_4 (X : aX) (la : aLs) (st : List aV) (M : aM) : go X 77 4 la st M = kC X 77 (i_ldi 1 5 la st M) := evC ((pm77 X 4).trans rfl) la st M
theorem e77_5 (X : aX) (la : aLs) (st : List aV) (M : aM) : go X 77 5 la st M = kK X 77 27 2 8 4 la st M := evK ((pm77 X 5).trans rfl) la st M
theorem e77_8 (X : aX) (la : aLs) (st : List aV) (M : aM) : go X 77 8 la st M = kC X 77 (i_ife 21 11 la st M) := evC ((pm77 X 8).trans rfl) la st M
theorem e77_11 (X : aX) (la : aLs) (st : List aV) (M : aM) : go X 77 11 la st M = kC X 77 (i_ldi 2 12 la st M) := evC ((pm77 X 11).trans rfl) la st M
theorem e77_12 (X : aX) (la : aLs) (st : List aV) (M : aM) : go X 77 12 la st M = kC X 77 (i_ci (nI 0) 13 la st M) := evC ((pm77 X 12).trans rfl) la st M
theorem e77_13 (X : aX) (la : aLs) (st : List aV) (M : aM) : go X 77 13 la st M = kC X 77 (i_ci (nI 99) 15 la st M) := evC ((pm77 X 13).trans rfl) la st M
theorem e77_15 (X : aX) (la : aLs) (st : List aV) (M : aM) : go X 77 15 la st M = kK X 77 102 3 18 0 la st M := evK ((pm77 X 15).trans rfl) la st M
theorem e77_18 (X : aX) (la : aLs) (st : List aV) (M : aM) : go X 77 18 la st M = kC X 77 (i_ife 21 27 la st M) := evC ((pm77 X 18).trans rfl) la st M
theorem e77_21 (X : aX) (la : aLs) (st : List aV) (M : aM) : go X 77 21 la st M = kC X 77 (i_lda 0 22 la st M) := evC ((pm77 X 21).trans rfl) la st M
theorem e77_22 (X : aX) (la : aLs) (st : List aV) (M : aM) : go X 77 22 la st M = kC X 77 (i_ci (nI 0) 23 la st M) := evC ((pm77 X 22).trans rfl) la st M
theorem e77_23 (X : aX) (la : aLs) (st : List aV) (M : aM) : go X 77 23 la st M = kK X 77 101 2 26 6 la st M := evK ((pm77 X 23).trans rfl) la st M
theorem e77_26 (X : aX) (la : aLs) (st : List aV) (M : aM) : go X 77 26 la st M = i_irt st M := evR ((pm77 X 26).trans rfl) la st M
theorem e77_27 (X : aX) (la : aLs) (st : List aV) (M : aM) : go X 77 27 la st M = kC X 77 (i_lda 0 28 la st M) := evC ((pm77 X 27).trans rfl) la st M
theorem e77_28 (X : aX) (la : aLs) (st : List aV) (M : aM) : go X 77 28 la st M = kC X 77 (i_get 5 1 31 la st M) := evC ((pm77 X 28).trans rfl) la st M
theorem e77_31 (X : aX) (la : aLs) (st : List aV) (M : aM) : go X 77 31 la st M = kC X 77 (i_lda 0 32 la st M) := evC ((pm77 X 31).trans rfl) la st M
theorem e77_32 (X : aX) (la : aLs) (st : List aV) (M : aM) : go X 77 32 la st M = kC X 77 (i_get 5 0 35 la st M) := evC ((pm77 X 32).trans rfl) la st M
theorem e77_35 (X : aX) (la : aLs) (st : List aV) (M : aM) : go X 77 35 la st M = kK X 77 26 2 38 4 la st M := evK ((pm77 X 35).trans rfl) la st M
theorem e77_38 (X : aX) (la : aLs) (st : List aV) (M : aM) : go X 77 38 la st M = kC X 77 (i_ci (nI 120) 40 la st M) := evC ((pm77 X 38).trans rfl) la st M
theorem e77_40 (X : aX) (la : aLs) (st : List aV) (M : aM) : go X 77 40 la st M = kC X 77 (i_sti 3 41 la st M) := evC ((pm77 X 40).trans rfl) la st M
theorem e77_41 (X : aX) (la : aLs) (st : List aV) (M : aM) : go X 77 41 la st M = kC X 77 (i_ldi 3 42 la st M) := evC ((pm77 X 41).trans rfl) la st M
theorem e77_42 (X : aX) (la : aLs) (st : List aV) (M : aM) : go X 77 42 la st M = kC X 77 (i_ifl 77 45 la st M) := evC ((pm77 X 42).trans rfl) la st M
theorem e77_45 (X : aX) (la : aLs) (st : List aV) (M : aM) : go X 77 45 la st M = kC X 77 (i_lda 0 46 la st M) := evC ((pm77 X 45).trans rfl) la st M
theorem e77_46 (X : aX) (la : aLs) (st : List aV) (M : aM) : go X 77 46 la st M = kC X 77 (i_get 5 1 49 la st M) := evC ((pm77 X 46).trans rfl) la st M
theorem e77_49 (X : aX) (la : aLs) (st : List aV) (M : aM) : go X 77 49 la st M = kC X 77 (i_ldi 1 50 la st M) := evC ((pm77 X 49).trans rfl) la st M
theorem e77_50 (X : aX) (la : aLs) (st : List aV) (M : aM) : go X 77 50 la st M = kC X 77 (i_ci (nI 4) 51 la st M) := evC ((pm77 X 50).trans rfl) la st M
theorem e77_51 (X : aX) (la : aLs) (st : List aV) (M : aM) : go X 77 51 la st M = kC X 77 (i_ldi 3 52 la st M) := evC ((pm77 X 51).trans rfl) la st M
theorem e77_52 (X : aX) (la : aLs) (st : List aV) (M : aM) : go X 77 52 la st M = kK X 77 32 4 55 4 la st M := evK ((pm77 X 52).trans rfl) la st M
theorem e77_55 (X : aX) (la : aLs) (st : List aV) (M : aM) : go X 77 55 la st M = kC X 77 (i_lda 0 56 la st M) := evC ((pm77 X 55).trans rfl) la st M
theorem e77_56 (X : aX) (la : aLs) (st : List aV) (M : aM) : go X 77 56 la st M = kC X 77 (i_get 5 1 59 la st M) := evC ((pm77 X 56).trans rfl) la st M
theorem e77_59 (X : aX) (la : aLs) (st : List aV) (M : aM) : go X 77 59 la st M = kC X 77 (i_ldi 1 60 la st M) := evC ((pm77 X 59).trans rfl) la st M
theorem e77_60 (X : aX) (la : aLs) (st : List aV) (M : aM) : go X 77 60 la st M = kC X 77 (i_ci (nI 10) 62 la st M) := evC ((pm77 X 60).trans rfl) la st M
theorem e77_62 (X : aX) (la : aLs) (st : List aV) (M : aM) : go X 77 62 la st M = kK X 77 30 3 65 4 la st M := evK ((pm77 X 62).trans rfl) la st M
theorem e77_65 (X : aX) (la : aLs) (st : List aV) (M : aM) : go X 77 65 la st M = kC X 77 (i_ldi 2 66 la st M) := evC ((pm77 X 65).trans rfl) la st M
theorem e77_66 (X : aX) (la : aLs) (st : List aV) (M : aM) : go X 77 66 la st M = kC X 77 (i_cmg 71 69 la st M) := evC ((pm77 X 66).trans rfl) la st M
theorem e77_69 (X : aX) (la : aLs) (st : List aV) (M : aM) : go X 77 69 la st M = kC X 77 (i_ldi 3 70 la st M) := evC ((pm77 X 69).trans rfl) la st M
theorem e77_70 (X : aX) (la : aLs) (st : List aV) (M : aM) : go X 77 70 la st M = i_irt st M := evR ((pm77 X 70).trans rfl) la st M
theorem e77_71 (X : aX) (la : aLs) (st : List aV) (M : aM) : go X 77 71 la st M = kC X 77 (i_inc 3 (-1) 74 la st M) := evC ((pm77 X 71).trans rfl) la st M
theorem e77_74 (X : aX) (la : aLs) (st : List aV) (M : aM) : go X 77 74 la st M = kC X 77 (i_go 41 la st M) := evC ((pm77 X 74).trans rfl) la st M
theorem e77_77 (X : aX) (la : aLs) (st : List aV) (M : aM) : go X 77 77 la st M = kC X 77 (i_lda 0 78 la st M) := evC ((pm77 X 77).trans rfl) la st M
theorem e77_78 (X : aX) (la : aLs) (st : List aV) (M : aM) : go X 77 78 la st M = kC X 77 (i_ci (nI 3) 79 la st M) := evC ((pm77 X 78).trans rfl) la st M
theorem e77_79 (X : aX) (la : aLs) (st : List aV) (M : aM) : go X 77 79 la st M = kK X 77 101 2 82 6 la st M := evK ((pm77 X 79).trans rfl) la st M
theorem e77_82 (X : aX) (la : aLs) (st : List aV) (M : aM) : go X 77 82 la st M = i_irt st M := evR ((pm77 X 82).trans rfl) la st M
theorem c77 (X : aX) (as : List aV) (M : aM) : cl X 77 as M = if cs as ≤ 4 then go X 77 0 (ent 4 as) [] M else none := rfl
theorem pm78 (X : aX) (pc : Nat) : pg X 78 pc = lk pc (tb78 X) := rfl
theorem e78_0 (X : aX) (la : aLs) (st : List aV) (M : aM) : go X 78 0 la st M = kC X 78 (i_ldi 1 1 la st M) := evC ((pm78 X 0).trans rfl) la st M
theorem e78_1 (X : aX) (la : aLs) (st : List aV) (M : aM) : go X 78 1 la st M = kC X 78 (i_ci (nI 0) 2 la st M) := evC ((pm78 X 1).trans rfl) la st M
theorem e78_2 (X : aX) (la : aLs) (st : List aV) (M : aM) : go X 78 2 la st M = kC X 78 (i_ci (nI 60) 4 la st M) := evC ((pm78 X 2).trans rfl) la st M
theorem e78_4 (X : aX) (la : aLs) (st : List aV) (M : aM) : go X 78 4 la st M = kK X 78 102 3 7 0 la st M := evK ((pm78 X 4).trans rfl) la st M
theorem e78_7 (X : aX) (la : aLs) (st : List aV) (M : aM) : go X 78 7 la st M = kC X 78 (i_ife 10 16 la st M) := evC ((pm78 X 7).trans rfl) la st M
theorem e78_10 (X : aX) (la : aLs) (st : List aV) (M : aM) : go X 78 10 la st M = kC X 78 (i_lda 0 11 la st M) := evC ((pm78 X 10).trans rfl) la st M
theorem e78_11 (X : aX) (la : aLs) (st : List aV) (M : aM) : go X 78 11 la st M = kC X 78 (i_ci (nI 0) 12 la st M) := evC ((pm78 X 11).trans rfl) la st M
theorem e78_12 (X : aX) (la : aLs) (st : List aV) (M : aM) : go X 78 12 la st M = kK X 78 101 2 15 6 la st M := evK ((pm78 X 12).trans rfl) la st M
theorem e78_15 (X : aX) (la : aLs) (st : List aV) (M : aM) : go X 78 15 la st M = i_irt st M := evR ((pm78 X 15).trans rfl) la st M
theorem e78_16 (X : aX) (la : aLs) (st : List aV) (M : aM) : go X 78 16 la st M = kC X 78 (i_ci (-1) 17 la st M) := evC ((pm78 X 16).trans rfl) la st M
theorem e78_17 (X : aX) (la : aLs) (st : List aV) (M : aM) : go X 78 17 la st M = kC X 78 (i_sti 2 18 la st M) := evC ((pm78 X 17).trans rfl) la st M
theorem e78_18 (X : aX) (la : aLs) (st : List aV) (M : aM) : go X 78 18 la st M = kC X 78 (i_ci (nI 9) 20 la st M) := evC ((pm78 X 18).trans rfl) la st M
theorem e78_20 (X : aX) (la : aLs) (st : List aV) (M : aM) : go X 78 20 la st M = kC X 78 (i_sti 3 21 la st M) := evC ((pm78 X 20).trans rfl) la st M
theorem e78_21 (X : aX) (la : aLs) (st : List aV) (M : aM) : go X 78 21 la st M = kC X 78 (i_ci (nI 0) 22 la st M) := evC ((pm78 X 21).trans rfl) la st M
theorem e78_22 (X : aX) (la : aLs) (st : List aV) (M : aM) : go X 78 22 la st M = kC X 78 (i_sti 4 24 la st M) := evC ((pm78 X 22).trans rfl) la st M
theorem e78_24 (X : aX) (la : aLs) (st : List aV) (M : aM) : go X 78 24 la st M = kC X 78 (i_ldi 4 26 la st M) := evC ((pm78 X 24).trans rfl) la st M
theorem e78_26 (X : aX) (la : aLs) (st : List aV) (M : aM) : go X 78 26 la st M = kC X 78 (i_ci (nI 1) 27 la st M) := evC ((pm78 X 26).trans rfl) la st M
theorem e78_27 (X : aX) (la : aLs) (st : List aV) (M : aM) : go X 78 27 la st M = kC X 78 (i_lda 0 28 la st M) := evC ((pm78 X 27).trans rfl) la st M
theorem e78_28 (X : aX) (la : aLs) (st : List aV) (M : aM) : go X 78 28 la st M = kC X 78 (i_get 5 0 31 la st M) := evC ((pm78 X 28).trans rfl) la st M
theorem e78_31 (X : aX) (la : aLs) (st : List aV) (M : aM) : go X 78 31 la st M = kC X 78 (i_get 3 2 34 la st M) := evC ((pm78 X 31).trans rfl) la st M
theorem e78_34 (X : aX) (la : aLs) (st : List aV) (M : aM) : go X 78 34 la st M = kC X 78 (i_bin (fun x y => x <<< (y &&& 31)) 35 la st M) := evC ((pm78 X 34).trans rfl) la st M
theorem e78_35 (X : aX) (la : aLs) (st : List aV) (M : aM) : go X 78 35 la st M = kC X 78 (i_cml 38 73 la st M) := evC ((pm78 X 35).trans rfl) la st M
theorem e78_38 (X : aX) (la : aLs) (st : List aV) (M : aM) : go X 78 38 la st M = kC X 78 (i_ldi 4 40 la st M) := evC ((pm78 X 38).trans rfl) la st M
theorem e78_40 (X : aX) (la : aLs) (st : List aV) (M : aM) : go X 78 40 la st M = kK X 78 213 1 43 0 la st M := evK ((pm78 X 40).trans rfl) la st M
theorem e78_43 (X : aX) (la : aLs) (st : List aV) (M : aM) : go X 78 43 la st M = kC X 78 (i_sti 5 45 la st M) := evC ((pm78 X 43).trans rfl) la st M
theorem e78_45 (X : aX) (la : aLs) (st : List aV) (M : aM) : go X 78 45 la st M = kC X 78 (i_ldi 5 47 la st M) := evC ((pm78 X 45).trans rfl) la st M
theorem e78_47 (X : aX) (la : aLs) (st : List aV) (M : aM) : go X 78 47 la st M = kC X 78 (i_ldi 3 48 la st M) := evC ((pm78 X 47).trans rfl) la st M
theorem e78_48 (X : aX) (la : aLs) (st : List aV) (M : aM) : go X 78 48 la st M = kC X 78 (i_cml 51 67 la st M) := evC ((pm78 X 48).trans rfl) la st M
theorem e78_51 (X : aX) (la : aLs) (st : List aV) (M : aM) : go X 78 51 la st M = kC X 78 (i_lda 0 52 la st M) := evC ((pm78 X 51).trans rfl) la st M
theorem e78_52 (X : aX) (la : aLs) (st : List aV) (M : aM) : go X 78 52 la st M = kC X 78 (i_ldi 4 54 la st M) := evC ((pm78 X 52).trans rfl) la st M
theorem e78_54 (X : aX) (la : aLs) (st : List aV) (M : aM) : go X 78 54 la st M = kC X 78 (i_ldi 1 55 la st M) := evC ((pm78 X 54).trans rfl) la st M
theorem e78_55 (X : aX) (la : aLs) (st : List aV) (M : aM) : go X 78 55 la st M = kK X 78 106 3 58 6 la st M := evK ((pm78 X 55).trans rfl) la st M
theorem e78_58 (X : aX) (la : aLs) (st : List aV) (M : aM) : go X 78 58 la st M = kC X 78 (i_ife 67 61 la st M) := evC ((pm78 X 58).trans rfl) la st M
theorem e78_61 (X : aX) (la : aLs) (st : List aV) (M : aM) : go X 78 61 la st M = kC X 78 (i_ldi 5 63 la st M) := evC ((pm78 X 61).trans rfl) la st M
theorem e78_63 (X : aX) (la : aLs) (st : List aV) (M : aM) : go X 78 63 la st M = kC X 78 (i_sti 3 64 la st M) := evC ((pm78 X 63).trans rfl) la st M
theorem e78_64 (X : aX) (la : aLs) (st : List aV) (M : aM) : go X 78 64 la st M = kC X 78 (i_ldi 4 66 la st M) := evC ((pm78 X 64).trans rfl) la st M
theorem e78_66 (X : aX) (la : aLs) (st : List aV) (M : aM) : go X 78 66 la st M = kC X 78 (i_sti 2 67 la st M) := evC ((pm78 X 66).trans rfl) la st M
theorem e78_67 (X : aX) (la : aLs) (st : List aV) (M : aM) : go X 78 67 la st M = kC X 78 (i_inc 4 (nI 1) 70 la st M) := evC ((pm78 X 67).trans rfl) la st M
theorem e78_70 (X : aX) (la : aLs) (st : List aV) (M : aM) : go X 78 70 la st M = kC X 78 (i_go 24 la st M) := evC ((pm78 X 70).trans rfl) la st M
theorem e78_73 (X : aX) (la : aLs) (st : List aV) (M : aM) : go X 78 73 la st M = kC X 78 (i_ldi 2 74 la st M) := evC ((pm78 X 73).trans rfl) la st M
theorem e78_74 (X : aX) (la : aLs) (st : List aV) (M : aM) : go X 78 74 la st M = kC X 78 (i_ifl 77 85 la st M) := evC ((pm78 X 74).trans rfl) la st M
theorem e78_77 (X : aX) (la : aLs) (st : List aV) (M : aM) : go X 78 77 la st M = kC X 78 (i_lda 0 78 la st M) := evC ((pm78 X 77).trans rfl) la st M
theorem e78_78 (X : aX) (la : aLs) (st : List aV) (M : aM) : go X 78 78 la st M = kC X 78 (i_ci (nI 3) 79 la st M) := evC ((pm78 X 78).trans rfl) la st M
theorem e78_79 (X : aX) (la : aLs) (st : List aV) (M : aM) : go X 78 79 la st M = kK X 78 101 2 82 6 la st M := evK ((pm78 X 79).trans rfl) la st M
theorem e78_82 (X : aX) (la : aLs) (st : List aV) (M : aM) : go X 78 82 la st M = kC X 78 (i_go 86 la st M) := evC ((pm78 X 82).trans rfl) la st M
theorem e78_85 (X : aX) (la : aLs) (st : List aV) (M : aM) : go X 78 85 la st M = kC X 78 (i_ldi 2 86 la st M) := evC ((pm78 X 85).trans rfl) la st M
theorem e78_86 (X : aX) (la : aLs) (st : List aV) (M : aM) : go X 78 86 la st M = i_irt st M := evR ((pm78 X 86).trans rfl) la st M
theorem c78 (X : aX) (as : List aV) (M : aM) : cl X 78 as M = if cs as ≤ 6 then go X 78 0 (ent 6 as) [] M else none := rfl
theorem pm79 (X : aX) (pc : Nat) : pg X 79 pc = lk pc (tb79 X) := rfl
theorem e79_0 (X : aX) (la : aLs) (st : List aV) (M : aM) : go X 79 0 la st M = kC X 79 (i_ldi 1 1 la st M) := evC ((pm79 X 0).trans rfl) la st M
theorem e79_1 (X : aX) (la : aLs) (st : List aV) (M : aM) : go X 79 1 la st M = kC X 79 (i_ci (nI 0) 2 la st M) := evC ((pm79 X 1).trans rfl) la st M
theorem e79_2 (X : aX) (la : aLs) (st : List aV) (M : aM) : go X 79 2 la st M = kC X 79 (i_ci (nI 200) 5 la st M) := evC ((pm79 X 2).trans rfl) la st M
theorem e79_5 (X : aX) (la : aLs) (st : List aV) (M : aM) : go X 79 5 la st M = kK X 79 102 3 8 0 la st M := evK ((pm79 X 5).trans rfl) la st M
theorem e79_8 (X : aX) (la : aLs) (st : List aV) (M : aM) : go X 79 8 la st M = kC X 79 (i_ife 11 17 la st M) := evC ((pm79 X 8).trans rfl) la st M
theorem e79_11 (X : aX) (la : aLs) (st : List aV) (M : aM) : go X 79 11 la st M = kC X 79 (i_lda 0 12 la st M) := evC ((pm79 X 11).trans rfl) la st M
theorem e79_12 (X : aX) (la : aLs) (st : List aV) (M : aM) : go X 79 12 la st M = kC X 79 (i_ci (nI 0) 13 la st M) := evC ((pm79 X 12).trans rfl) la st M
theorem e79_13 (X : aX) (la : aLs) (st : List aV) (M : aM) : go X 79 13 la st M = kK X 79 101 2 16 6 la st M := evK ((pm79 X 13).trans rfl) la st M
theorem e79_16 (X : aX) (la : aLs) (st : List aV) (M : aM) : go X 79 16 la st M = i_irt st M := evR ((pm79 X 16).trans rfl) la st M
theorem e79_17 (X : aX) (la : aLs) (st : List aV) (M : aM) : go X 79 17 la st M = kC X 79 (i_lda 0 18 la st M) := evC ((pm79 X 17).trans rfl) la st M
theorem e79_18 (X : aX) (la : aLs) (st : List aV) (M : aM) : go X 79 18 la st M = kC X 79 (i_get 5 1 21 la st M) := evC ((pm79 X 18).trans rfl) la st M
theorem e79_21 (X : aX) (la : aLs) (st : List aV) (M : aM) : go X 79 21 la st M = kC X 79 (i_lda 0 22 la st M) := evC ((pm79 X 21).trans rfl) la st M
theorem e79_22 (X : aX) (la : aLs) (st : List aV) (M : aM) : go X 79 22 la st M = kC X 79 (i_get 5 0 25 la st M) := evC ((pm79 X 22).trans rfl) la st M
theorem e79_25 (X : aX) (la : aLs) (st : List aV) (M : aM) : go X 79 25 la st M = kK X 79 26 2 28 4 la st M := evK ((pm79 X 25).trans rfl) la st M
theorem e79_28 (X : aX) (la : aLs) (st : List aV) (M : aM) : go X 79 28 la st M = kC X 79 (i_lda 0 29 la st M) := evC ((pm79 X 28).trans rfl) la st M
theorem e79_29 (X : aX) (la : aLs) (st : List aV) (M : aM) : go X 79 29 la st M = kC X 79 (i_get 5 1 32 la st M) := evC ((pm79 X 29).trans rfl) la st M
theorem e79_32 (X : aX) (la : aLs) (st : List aV) (M : aM) : go X 79 32 la st M = kC X 79 (i_get 3 4 35 la st M) := evC ((pm79 X 32).trans rfl) la st M
theorem e79_35 (X : aX) (la : aLs) (st : List aV) (M : aM) : go X 79 35 la st M = kC X 79 (i_sti 2 36 la st M) := evC ((pm79 X 35).trans rfl) la st M
theorem e79_36 (X : aX) (la : aLs) (st : List aV) (M : aM) : go X 79 36 la st M = kC X 79 (i_ci (nI 0) 37 la st M) := evC ((pm79 X 36).trans rfl) la st M
theorem e79_37 (X : aX) (la : aLs) (st : List aV) (M : aM) : go X 79 37 la st M = kC X 79 (i_sti 3 38 la st M) := evC ((pm79 X 37).trans rfl) la st M
theorem e79_38 (X : aX) (la : aLs) (st : List aV) (M : aM) : go X 79 38 la st M = kC X 79 (i_ldi 3 39 la st M) := evC ((pm79 X 38).trans rfl) la st M
theorem e79_39 (X : aX) (la : aLs) (st : List aV) (M : aM) : go X 79 39 la st M = kC X 79 (i_ldi 1 40 la st M) := evC ((pm79 X 39).trans rfl) la st M
theorem e79_40 (X : aX) (la : aLs) (st : List aV) (M : aM) : go X 79 40 la st M = kC X 79 (i_cml 43 69 la st M) := evC ((pm79 X 40).trans rfl) la st M
theorem e79_43 (X : aX) (la : aLs) (st : List aV) (M : aM) : go X 79 43 la st M = kC X 79 (i_lda 0 44 la st M) := evC ((pm79 X 43).trans rfl) la st M
theorem e79_44 (X : aX) (la : aLs) (st : List aV) (M : aM) : go X 79 44 la st M = kC X 79 (i_get 5 1 47 la st M) := evC ((pm79 X 44).trans rfl) la st M
theorem e79_47 (X : aX) (la : aLs) (st : List aV) (M : aM) : go X 79 47 la st M = kC X 79 (i_ci (nI 1) 48 la st M) := evC ((pm79 X 47).trans rfl) la st M
theorem e79_48 (X : aX) (la : aLs) (st : List aV) (M : aM) : go X 79 48 la st M = kK X 79 46 2 51 4 la st M := evK ((pm79 X 48).trans rfl) la st M
theorem e79_51 (X : aX) (la : aLs) (st : List aV) (M : aM) : go X 79 51 la st M = kC X 79 (i_ldi 2 52 la st M) := evC ((pm79 X 51).trans rfl) la st M
theorem e79_52 (X : aX) (la : aLs) (st : List aV) (M : aM) : go X 79 52 la st M = kC X 79 (i_lda 0 53 la st M) := evC ((pm79 X 52).trans rfl) la st M
theorem e79_53 (X : aX) (la : aLs) (st : List aV) (M : aM) : go X 79 53 la st M = kC X 79 (i_get 5 1 56 la st M) := evC ((pm79 X 53).trans rfl) la st M
theorem e79_56 (X : aX) (la : aLs) (st : List aV) (M : aM) : go X 79 56 la st M = kC X 79 (i_get 3 4 59 la st M) := evC ((pm79 X 56).trans rfl) la st M
theorem e79_59 (X : aX) (la : aLs) (st : List aV) (M : aM) : go X 79 59 la st M = kC X 79 (i_max 62 la st M) := evC ((pm79 X 59).trans rfl) la st M
theorem e79_62 (X : aX) (la : aLs) (st : List aV) (M : aM) : go X 79 62 la st M = kC X 79 (i_sti 2 63 la st M) := evC ((pm79 X 62).trans rfl) la st M
theorem e79_63 (X : aX) (la : aLs) (st : List aV) (M : aM) : go X 79 63 la st M = kC X 79 (i_inc 3 (nI 1) 66 la st M) := evC ((pm79 X 63).trans rfl) la st M
theorem e79_66 (X : aX) (la : aLs) (st : List aV) (M : aM) : go X 79 66 la st M = kC X 79 (i_go 38 la st M) := evC ((pm79 X 66).trans rfl) la st M
theorem e79_69 (X : aX) (la : aLs) (st : List aV) (M : aM) : go X 79 69 la st M = kC X 79 (i_ldi 2 70 la st M) := evC ((pm79 X 69).trans rfl) la st M
theorem e79_70 (X : aX) (la : aLs) (st : List aV) (M : aM) : go X 79 70 la st M = i_irt st M := evR ((pm79 X 70).trans rfl) la st M
theorem c79 (X : aX) (as : List aV) (M : aM) : cl X 79 as M = if cs as ≤ 4 then go X 79 0 (ent 4 as) [] M else none := rfl
theorem pm80 (X : aX) (pc : Nat) : pg X 80 pc = lk pc (tb80 X) := rfl
theorem e80_0 (X : aX) (la : aLs) (st : List aV) (M : aM) : go X 80 0 la st M = kC X 80 (i_lda 0 1 la st M) := evC ((pm80 X 0).trans rfl) la st M
theorem e80_1 (X : aX) (la : aLs) (st : List aV) (M : aM) : go X 80 1 la st M = kC X 80 (i_ldi 1 2 la st M) := evC ((pm80 X 1).trans rfl) la st M
theorem e80_2 (X : aX) (la : aLs) (st : List aV) (M : aM) : go X 80 2 la st M = kC X 80 (i_ldi 2 3 la st M) := evC ((pm80 X 2).trans rfl) la st M
theorem e80_3 (X : aX) (la : aLs) (st : List aV) (M : aM) : go X 80 3 la st M = kK X 80 110 3 6 6 la st M := evK ((pm80 X 3).trans rfl) la st M
theorem e80_6 (X : aX) (la : aLs) (st : List aV) (M : aM) : go X 80 6 la st M = kC X 80 (i_sti 3 7 la st M) := evC ((pm80 X 6).trans rfl) la st M
theorem e80_7 (X : aX) (la : aLs) (st : List aV) (M : aM) : go X 80 7 la st M = kC X 80 (i_ldi 3 8 la st M) := evC ((pm80 X 7).trans rfl) la st M
theorem e80_8 (X : aX) (la : aLs) (st : List aV) (M : aM) : go X 80 8 la st M = kC X 80 (i_ci (-1) 9 la st M) := evC ((pm80 X 8).trans rfl) la st M
theorem e80_9 (X : aX) (la : aLs) (st : List aV) (M : aM) : go X 80 9 la st M = kC X 80 (i_cme 18 12 la st M) := evC ((pm80 X 9).trans rfl) la st M
theorem e80_12 (X : aX) (la : aLs) (st : List aV) (M : aM) : go X 80 12 la st M = kC X 80 (i_lda 0 13 la st M) := evC ((pm80 X 12).trans rfl) la st M
theorem e80_13 (X : aX) (la : aLs) (st : List aV) (M : aM) : go X 80 13 la st M = kC X 80 (i_ldi 3 14 la st M) := evC ((pm80 X 13).trans rfl) la st M
theorem e80_14 (X : aX) (la : aLs) (st : List aV) (M : aM) : go X 80 14 la st M = kK X 80 101 2 17 6 la st M := evK ((pm80 X 14).trans rfl) la st M
theorem e80_17 (X : aX) (la : aLs) (st : List aV) (M : aM) : go X 80 17 la st M = i_irt st M := evR ((pm80 X 17).trans rfl) la st M
theorem e80_18 (X : aX) (la : aLs) (st : List aV) (M : aM) : go X 80 18 la st M = kC X 80 (i_ci (nI 0) 19 la st M) := evC ((pm80 X 18).trans rfl) la st M
theorem e80_19 (X : aX) (la : aLs) (st : List aV) (M : aM) : go X 80 19 la st M = kC X 80 (i_sti 4 21 la st M) := evC ((pm80 X 19).trans rfl) la st M
theorem e80_21 (X : aX) (la : aLs) (st : List aV) (M : aM) : go X 80 21 la st M = kC X 80 (i_ci (nI 0) 22 la st M) := evC ((pm80 X 21).trans rfl) la st M
theorem e80_22 (X : aX) (la : aLs) (st : List aV) (M : aM) : go X 80 22 la st M = kC X 80 (i_sti 5 24 la st M) := evC ((pm80 X 22).trans rfl) la st M
theorem e80_24 (X : aX) (la : aLs) (st : List aV) (M : aM) : go X 80 24 la st M = kC X 80 (i_ldi 5 26 la st M) := evC ((pm80 X 24).trans rfl) la st M
theorem e80_26 (X : aX) (la : aLs) (st : List aV) (M : aM) : go X 80 26 la st M = kC X 80 (i_ci (nI 60) 28 la st M) := evC ((pm80 X 26).trans rfl) la st M
theorem e80_28 (X : aX) (la : aLs) (st : List aV) (M : aM) : go X 80 28 la st M = kC X 80 (i_cml 31 57 la st M) := evC ((pm80 X 28).trans rfl) la st M
theorem e80_31 (X : aX) (la : aLs) (st : List aV) (M : aM) : go X 80 31 la st M = kC X 80 (i_lda 0 32 la st M) := evC ((pm80 X 31).trans rfl) la st M
theorem e80_32 (X : aX) (la : aLs) (st : List aV) (M : aM) : go X 80 32 la st M = kC X 80 (i_lda 0 33 la st M) := evC ((pm80 X 32).trans rfl) la st M
theorem e80_33 (X : aX) (la : aLs) (st : List aV) (M : aM) : go X 80 33 la st M = kC X 80 (i_get 5 4 36 la st M) := evC ((pm80 X 33).trans rfl) la st M
theorem e80_36 (X : aX) (la : aLs) (st : List aV) (M : aM) : go X 80 36 la st M = kC X 80 (i_ldi 1 37 la st M) := evC ((pm80 X 36).trans rfl) la st M
theorem e80_37 (X : aX) (la : aLs) (st : List aV) (M : aM) : go X 80 37 la st M = kC X 80 (i_aal 38 la st M) := evC ((pm80 X 37).trans rfl) la st M
theorem e80_38 (X : aX) (la : aLs) (st : List aV) (M : aM) : go X 80 38 la st M = kC X 80 (i_ldi 2 39 la st M) := evC ((pm80 X 38).trans rfl) la st M
theorem e80_39 (X : aX) (la : aLs) (st : List aV) (M : aM) : go X 80 39 la st M = kC X 80 (i_ci (nI 1) 40 la st M) := evC ((pm80 X 39).trans rfl) la st M
theorem e80_40 (X : aX) (la : aLs) (st : List aV) (M : aM) : go X 80 40 la st M = kC X 80 (i_ldi 5 42 la st M) := evC ((pm80 X 40).trans rfl) la st M
theorem e80_42 (X : aX) (la : aLs) (st : List aV) (M : aM) : go X 80 42 la st M = kK X 80 107 5 45 6 la st M := evK ((pm80 X 42).trans rfl) la st M
theorem e80_45 (X : aX) (la : aLs) (st : List aV) (M : aM) : go X 80 45 la st M = kC X 80 (i_ife 51 48 la st M) := evC ((pm80 X 45).trans rfl) la st M
theorem e80_48 (X : aX) (la : aLs) (st : List aV) (M : aM) : go X 80 48 la st M = kC X 80 (i_inc 4 (nI 1) 51 la st M) := evC ((pm80 X 48).trans rfl) la st M
theorem e80_51 (X : aX) (la : aLs) (st : List aV) (M : aM) : go X 80 51 la st M = kC X 80 (i_inc 5 (nI 1) 54 la st M) := evC ((pm80 X 51).trans rfl) la st M
theorem e80_54 (X : aX) (la : aLs) (st : List aV) (M : aM) : go X 80 54 la st M = kC X 80 (i_go 24 la st M) := evC ((pm80 X 54).trans rfl) la st M
theorem e80_57 (X : aX) (la : aLs) (st : List aV) (M : aM) : go X 80 57 la st M = kC X 80 (i_ldi 4 59 la st M) := evC ((pm80 X 57).trans rfl) la st M
theorem e80_59 (X : aX) (la : aLs) (st : List aV) (M : aM) : go X 80 59 la st M = i_irt st M := evR ((pm80 X 59).trans rfl) la st M
theorem c80 (X : aX) (as : List aV) (M : aM) : cl X 80 as M = if cs as ≤ 6 then go X 80 0 (ent 6 as) [] M else none := rfl
theorem pm81 (X : aX) (pc : Nat) : pg X 81 pc = lk pc (tb81 X) := rfl
theorem e81_0 (X : aX) (la : aLs) (st : List aV) (M : aM) : go X 81 0 la st M = kC X 81 (i_lda 0 1 la st M) := evC ((pm81 X 0).trans rfl) la st M
theorem e81_1 (X : aX) (la : aLs) (st : List aV) (M : aM) : go X 81 1 la st M = kC X 81 (i_ldi 1 2 la st M) := evC ((pm81 X 1).trans rfl) la st M
theorem e81_2 (X : aX) (la : aLs) (st : List aV) (M : aM) : go X 81 2 la st M = kC X 81 (i_ldi 2 3 la st M) := evC ((pm81 X 2).trans rfl) la st M
theorem e81_3 (X : aX) (la : aLs) (st : List aV) (M : aM) : go X 81 3 la st M = kK X 81 110 3 6 6 la st M := evK ((pm81 X 3).trans rfl) la st M
theorem e81_6 (X : aX) (la : aLs) (st : List aV) (M : aM) : go X 81 6 la st M = kC X 81 (i_sti 3 7 la st M) := evC ((pm81 X 6).trans rfl) la st M
theorem e81_7 (X : aX) (la : aLs) (st : List aV) (M : aM) : go X 81 7 la st M = kC X 81 (i_ldi 3 8 la st M) := evC ((pm81 X 7).trans rfl) la st M
theorem e81_8 (X : aX) (la : aLs) (st : List aV) (M : aM) : go X 81 8 la st M = kC X 81 (i_ci (-1) 9 la st M) := evC ((pm81 X 8).trans rfl) la st M
theorem e81_9 (X : aX) (la : aLs) (st : List aV) (M : aM) : go X 81 9 la st M = kC X 81 (i_cme 18 12 la st M) := evC ((pm81 X 9).trans rfl) la st M
theorem e81_12 (X : aX) (la : aLs) (st : List aV) (M : aM) : go X 81 12 la st M = kC X 81 (i_lda 0 13 la st M) := evC ((pm81 X 12).trans rfl) la st M
theorem e81_13 (X : aX) (la : aLs) (st : List aV) (M : aM) : go X 81 13 la st M = kC X 81 (i_ldi 3 14 la st M) := evC ((pm81 X 13).trans rfl) la st M
theorem e81_14 (X : aX) (la : aLs) (st : List aV) (M : aM) : go X 81 14 la st M = kK X 81 101 2 17 6 la st M := evK ((pm81 X 14).trans rfl) la st M
theorem e81_17 (X : aX) (la : aLs) (st : List aV) (M : aM) : go X 81 17 la st M = i_irt st M := evR ((pm81 X 17).trans rfl) la st M
theorem e81_18 (X : aX) (la : aLs) (st : List aV) (M : aM) : go X 81 18 la st M = kC X 81 (i_ci (nI 0) 19 la st M) := evC ((pm81 X 18).trans rfl) la st M
theorem e81_19 (X : aX) (la : aLs) (st : List aV) (M : aM) : go X 81 19 la st M = kC X 81 (i_sti 4 21 la st M) := evC ((pm81 X 19).trans rfl) la st M
theorem e81_21 (X : aX) (la : aLs) (st : List aV) (M : aM) : go X 81 21 la st M = kC X 81 (i_ldi 4 23 la st M) := evC ((pm81 X 21).trans rfl) la st M
theorem e81_23 (X : aX) (la : aLs) (st : List aV) (M : aM) : go X 81 23 la st M = kC X 81 (i_ci (nI 60) 25 la st M) := evC ((pm81 X 23).trans rfl) la st M
theorem e81_25 (X : aX) (la : aLs) (st : List aV) (M : aM) : go X 81 25 la st M = kC X 81 (i_cml 28 54 la st M) := evC ((pm81 X 25).trans rfl) la st M
theorem e81_28 (X : aX) (la : aLs) (st : List aV) (M : aM) : go X 81 28 la st M = kC X 81 (i_lda 0 29 la st M) := evC ((pm81 X 28).trans rfl) la st M
theorem e81_29 (X : aX) (la : aLs) (st : List aV) (M : aM) : go X 81 29 la st M = kC X 81 (i_lda 0 30 la st M) := evC ((pm81 X 29).trans rfl) la st M
theorem e81_30 (X : aX) (la : aLs) (st : List aV) (M : aM) : go X 81 30 la st M = kC X 81 (i_get 5 4 33 la st M) := evC ((pm81 X 30).trans rfl) la st M
theorem e81_33 (X : aX) (la : aLs) (st : List aV) (M : aM) : go X 81 33 la st M = kC X 81 (i_ldi 1 34 la st M) := evC ((pm81 X 33).trans rfl) la st M
theorem e81_34 (X : aX) (la : aLs) (st : List aV) (M : aM) : go X 81 34 la st M = kC X 81 (i_aal 35 la st M) := evC ((pm81 X 34).trans rfl) la st M
theorem e81_35 (X : aX) (la : aLs) (st : List aV) (M : aM) : go X 81 35 la st M = kC X 81 (i_ldi 2 36 la st M) := evC ((pm81 X 35).trans rfl) la st M
theorem e81_36 (X : aX) (la : aLs) (st : List aV) (M : aM) : go X 81 36 la st M = kC X 81 (i_ci (nI 1) 37 la st M) := evC ((pm81 X 36).trans rfl) la st M
theorem e81_37 (X : aX) (la : aLs) (st : List aV) (M : aM) : go X 81 37 la st M = kC X 81 (i_ldi 4 39 la st M) := evC ((pm81 X 37).trans rfl) la st M
theorem e81_39 (X : aX) (la : aLs) (st : List aV) (M : aM) : go X 81 39 la st M = kK X 81 107 5 42 6 la st M := evK ((pm81 X 39).trans rfl) la st M
theorem e81_42 (X : aX) (la : aLs) (st : List aV) (M : aM) : go X 81 42 la st M = kC X 81 (i_ife 48 45 la st M) := evC ((pm81 X 42).trans rfl) la st M
theorem e81_45 (X : aX) (la : aLs) (st : List aV) (M : aM) : go X 81 45 la st M = kC X 81 (i_ldi 4 47 la st M) := evC ((pm81 X 45).trans rfl) la st M
theorem e81_47 (X : aX) (la : aLs) (st : List aV) (M : aM) : go X 81 47 la st M = i_irt st M := evR ((pm81 X 47).trans rfl) la st M
theorem e81_48 (X : aX) (la : aLs) (st : List aV) (M : aM) : go X 81 48 la st M = kC X 81 (i_inc 4 (nI 1) 51 la st M) := evC ((pm81 X 48).trans rfl) la st M
theorem e81_51 (X : aX) (la : aLs) (st : List aV) (M : aM) : go X 81 51 la st M = kC X 81 (i_go 21 la st M) := evC ((pm81 X 51).trans rfl) la st M
theorem e81_54 (X : aX) (la : aLs) (st : List aV) (M : aM) : go X 81 54 la st M = kC X 81 (i_lda 0 55 la st M) := evC ((pm81 X 54).trans rfl) la st M
theorem e81_55 (X : aX) (la : aLs) (st : List aV) (M : aM) : go X 81 55 la st M = kC X 81 (i_ci (nI 3) 56 la st M) := evC ((pm81 X 55).trans rfl) la st M
theorem e81_56 (X : aX) (la : aLs) (st : List aV) (M : aM) : go X 81 56 la st M = kK X 81 101 2 59 6 la st M := evK ((pm81 X 56).trans rfl) la st M
theorem e81_59 (X : aX) (la : aLs) (st : List aV) (M : aM) : go X 81 59 la st M = i_irt st M := evR ((pm81 X 59).trans rfl) la st M
theorem c81 (X : aX) (as : List aV) (M : aM) : cl X 81 as M = if cs as ≤ 5 then go X 81 0 (ent 5 as) [] M else none := rfl
theorem pm82 (X : aX) (pc : Nat) : pg X 82 pc = lk pc (tb82 X) := rfl
theorem e82_0 (X : aX) (la : aLs) (st : List aV) (M : aM) : go X 82 0 la st M = kC X 82 (i_lda 0 1 la st M) := evC ((pm82 X 0).trans rfl) la st M
theorem e82_1 (X : aX) (la : aLs) (st : List aV) (M : aM) : go X 82 1 la st M = kC X 82 (i_ldi 1 2 la st M) := evC ((pm82 X 1).trans rfl) la st M
theorem e82_2 (X : aX) (la : aLs) (st : List aV) (M : aM) : go X 82 2 la st M = kC X 82 (i_ldi 2 3 la st M) := evC ((pm82 X 2).trans rfl) la st M
theorem e82_3 (X : aX) (la : aLs) (st : List aV) (M : aM) : go X 82 3 la st M = kK X 82 110 3 6 6 la st M := evK ((pm82 X 3).trans rfl) la st M
theorem e82_6 (X : aX) (la : aLs) (st : List aV) (M : aM) : go X 82 6 la st M = kC X 82 (i_sti 3 7 la st M) := evC ((pm82 X 6).trans rfl) la st M
theorem e82_7 (X : aX) (la : aLs) (st : List aV) (M : aM) : go X 82 7 la st M = kC X 82 (i_ldi 3 8 la st M) := evC ((pm82 X 7).trans rfl) la st M
theorem e82_8 (X : aX) (la : aLs) (st : List aV) (M : aM) : go X 82 8 la st M = kC X 82 (i_ci (-1) 9 la st M) := evC ((pm82 X 8).trans rfl) la st M
theorem e82_9 (X : aX) (la : aLs) (st : List aV) (M : aM) : go X 82 9 la st M = kC X 82 (i_cme 18 12 la st M) := evC ((pm82 X 9).trans rfl) la st M
theorem e82_12 (X : aX) (la : aLs) (st : List aV) (M : aM) : go X 82 12 la st M = kC X 82 (i_lda 0 13 la st M) := evC ((pm82 X 12).trans rfl) la st M
theorem e82_13 (X : aX) (la : aLs) (st : List aV) (M : aM) : go X 82 13 la st M = kC X 82 (i_ldi 3 14 la st M) := evC ((pm82 X 13).trans rfl) la st M
theorem e82_14 (X : aX) (la : aLs) (st : List aV) (M : aM) : go X 82 14 la st M = kK X 82 101 2 17 6 la st M := evK ((pm82 X 14).trans rfl) la st M
theorem e82_17 (X : aX) (la : aLs) (st : List aV) (M : aM) : go X 82 17 la st M = i_irt st M := evR ((pm82 X 17).trans rfl) la st M
theorem e82_18 (X : aX) (la : aLs) (st : List aV) (M : aM) : go X 82 18 la st M = kC X 82 (i_ci (nI 0) 19 la st M) := evC ((pm82 X 18).trans rfl) la st M
theorem e82_19 (X : aX) (la : aLs) (st : List aV) (M : aM) : go X 82 19 la st M = kC X 82 (i_sti 4 21 la st M) := evC ((pm82 X 19).trans rfl) la st M
theorem e82_21 (X : aX) (la : aLs) (st : List aV) (M : aM) : go X 82 21 la st M = kC X 82 (i_ci (nI 0) 22 la st M) := evC ((pm82 X 21).trans rfl) la st M
theorem e82_22 (X : aX) (la : aLs) (st : List aV) (M : aM) : go X 82 22 la st M = kC X 82 (i_sti 5 24 la st M) := evC ((pm82 X 22).trans rfl) la st M
theorem e82_24 (X : aX) (la : aLs) (st : List aV) (M : aM) : go X 82 24 la st M = kC X 82 (i_ldi 5 26 la st M) := evC ((pm82 X 24).trans rfl) la st M
theorem e82_26 (X : aX) (la : aLs) (st : List aV) (M : aM) : go X 82 26 la st M = kC X 82 (i_ci (nI 6) 28 la st M) := evC ((pm82 X 26).trans rfl) la st M
theorem e82_28 (X : aX) (la : aLs) (st : List aV) (M : aM) : go X 82 28 la st M = kC X 82 (i_cmg 63 31 la st M) := evC ((pm82 X 28).trans rfl) la st M
theorem e82_31 (X : aX) (la : aLs) (st : List aV) (M : aM) : go X 82 31 la st M = kC X 82 (i_lda 0 32 la st M) := evC ((pm82 X 31).trans rfl) la st M
theorem e82_32 (X : aX) (la : aLs) (st : List aV) (M : aM) : go X 82 32 la st M = kC X 82 (i_lda 0 33 la st M) := evC ((pm82 X 32).trans rfl) la st M
theorem e82_33 (X : aX) (la : aLs) (st : List aV) (M : aM) : go X 82 33 la st M = kC X 82 (i_get 5 4 36 la st M) := evC ((pm82 X 33).trans rfl) la st M
theorem e82_36 (X : aX) (la : aLs) (st : List aV) (M : aM) : go X 82 36 la st M = kC X 82 (i_ldi 1 37 la st M) := evC ((pm82 X 36).trans rfl) la st M
theorem e82_37 (X : aX) (la : aLs) (st : List aV) (M : aM) : go X 82 37 la st M = kC X 82 (i_aal 38 la st M) := evC ((pm82 X 37).trans rfl) la st M
theorem e82_38 (X : aX) (la : aLs) (st : List aV) (M : aM) : go X 82 38 la st M = kC X 82 (i_ldi 2 39 la st M) := evC ((pm82 X 38).trans rfl) la st M
theorem e82_39 (X : aX) (la : aLs) (st : List aV) (M : aM) : go X 82 39 la st M = kC X 82 (i_ci (nI 0) 40 la st M) := evC ((pm82 X 39).trans rfl) la st M
theorem e82_40 (X : aX) (la : aLs) (st : List aV) (M : aM) : go X 82 40 la st M = kC X 82 (i_ldi 5 42 la st M) := evC ((pm82 X 40).trans rfl) la st M
theorem e82_42 (X : aX) (la : aLs) (st : List aV) (M : aM) : go X 82 42 la st M = kK X 82 107 5 45 6 la st M := evK ((pm82 X 42).trans rfl) la st M
theorem e82_45 (X : aX) (la : aLs) (st : List aV) (M : aM) : go X 82 45 la st M = kC X 82 (i_ife 57 48 la st M) := evC ((pm82 X 45).trans rfl) la st M
theorem e82_48 (X : aX) (la : aLs) (st : List aV) (M : aM) : go X 82 48 la st M = kC X 82 (i_ldi 4 50 la st M) := evC ((pm82 X 48).trans rfl) la st M
theorem e82_50 (X : aX) (la : aLs) (st : List aV) (M : aM) : go X 82 50 la st M = kC X 82 (i_ci (nI 1) 51 la st M) := evC ((pm82 X 50).trans rfl) la st M
theorem e82_51 (X : aX) (la : aLs) (st : List aV) (M : aM) : go X 82 51 la st M = kC X 82 (i_ldi 5 53 la st M) := evC ((pm82 X 51).trans rfl) la st M
theorem e82_53 (X : aX) (la : aLs) (st : List aV) (M : aM) : go X 82 53 la st M = kC X 82 (i_bin (fun x y => x <<< (y &&& 31)) 54 la st M) := evC ((pm82 X 53).trans rfl) la st M
theorem e82_54 (X : aX) (la : aLs) (st : List aV) (M : aM) : go X 82 54 la st M = kC X 82 (i_bin (fun x y => x ||| y) 55 la st M) := evC ((pm82 X 54).trans rfl) la st M
theorem e82_55 (X : aX) (la : aLs) (st : List aV) (M : aM) : go X 82 55 la st M = kC X 82 (i_sti 4 57 la st M) := evC ((pm82 X 55).trans rfl) la st M
theorem e82_57 (X : aX) (la : aLs) (st : List aV) (M : aM) : go X 82 57 la st M = kC X 82 (i_inc 5 (nI 1) 60 la st M) := evC ((pm82 X 57).trans rfl) la st M
theorem e82_60 (X : aX) (la : aLs) (st : List aV) (M : aM) : go X 82 60 la st M = kC X 82 (i_go 24 la st M) := evC ((pm82 X 60).trans rfl) la st M
theorem e82_63 (X : aX) (la : aLs) (st : List aV) (M : aM) : go X 82 63 la st M = kC X 82 (i_ldi 4 65 la st M) := evC ((pm82 X 63).trans rfl) la st M
theorem e82_65 (X : aX) (la : aLs) (st : List aV) (M : aM) : go X 82 65 la st M = i_irt st M := evR ((pm82 X 65).trans rfl) la st M
theorem c82 (X : aX) (as : List aV) (M : aM) : cl X 82 as M = if cs as ≤ 6 then go X 82 0 (ent 6 as) [] M else none := rfl
theorem pm83 (X : aX) (pc : Nat) : pg X 83 pc = lk pc (tb83 X) := rfl
theorem e83_0 (X : aX) (la : aLs) (st : List aV) (M : aM) : go X 83 0 la st M = kC X 83 (i_ldi 1 1 la st M) := evC ((pm83 X 0).trans rfl) la st M
theorem e83_1 (X : aX) (la : aLs) (st : List aV) (M : aM) : go X 83 1 la st M = kC X 83 (i_ci (nI 1) 2 la st M) := evC ((pm83 X 1).trans rfl) la st M
theorem e83_2 (X : aX) (la : aLs) (st : List aV) (M : aM) : go X 83 2 la st M = kC X 83 (i_ci (nI 20) 4 la st M) := evC ((pm83 X 2).trans rfl) la st M
theorem e83_4 (X : aX) (la : aLs) (st : List aV) (M : aM) : go X 83 4 la st M = kK X 83 102 3 7 0 la st M := evK ((pm83 X 4).trans rfl) la st M
theorem e83_7 (X : aX) (la : aLs) (st : List aV) (M : aM) : go X 83 7 la st M = kC X 83 (i_ife 10 16 la st M) := evC ((pm83 X 7).trans rfl) la st M
theorem e83_10 (X : aX) (la : aLs) (st : List aV) (M : aM) : go X 83 10 la st M = kC X 83 (i_lda 0 11 la st M) := evC ((pm83 X 10).trans rfl) la st M
theorem e83_11 (X : aX) (la : aLs) (st : List aV) (M : aM) : go X 83 11 la st M = kC X 83 (i_ci (nI 0) 12 la st M) := evC ((pm83 X 11).trans rfl) la st M
theorem e83_12 (X : aX) (la : aLs) (st : List aV) (M : aM) : go X 83 12 la st M = kK X 83 101 2 15 6 la st M := evK ((pm83 X 12).trans rfl) la st M
theorem e83_15 (X : aX) (la : aLs) (st : List aV) (M : aM) : go X 83 15 la st M = i_irt st M := evR ((pm83 X 15).trans rfl) la st M
theorem e83_16 (X : aX) (la : aLs) (st : List aV) (M : aM) : go X 83 16 la st M = kC X 83 (i_lda 0 17 la st M) := evC ((pm83 X 16).trans rfl) la st M
theorem e83_17 (X : aX) (la : aLs) (st : List aV) (M : aM) : go X 83 17 la st M = kC X 83 (i_get 5 0 20 la st M) := evC ((pm83 X 17).trans rfl) la st M
theorem e83_20 (X : aX) (la : aLs) (st : List aV) (M : aM) : go X 83 20 la st M = kC X 83 (i_ldi 1 21 la st M) := evC ((pm83 X 20).trans rfl) la st M
theorem e83_21 (X : aX) (la : aLs) (st : List aV) (M : aM) : go X 83 21 la st M = kK X 83 44 2 24 4 la st M := evK ((pm83 X 21).trans rfl) la st M
theorem e83_24 (X : aX) (la : aLs) (st : List aV) (M : aM) : go X 83 24 la st M = kC X 83 (i_ife 27 33 la st M) := evC ((pm83 X 24).trans rfl) la st M
theorem e83_27 (X : aX) (la : aLs) (st : List aV) (M : aM) : go X 83 27 la st M = kC X 83 (i_lda 0 28 la st M) := evC ((pm83 X 27).trans rfl) la st M
theorem e83_28 (X : aX) (la : aLs) (st : List aV) (M : aM) : go X 83 28 la st M = kC X 83 (i_ci (nI 4) 29 la st M) := evC ((pm83 X 28).trans rfl) la st M
theorem e83_29 (X : aX) (la : aLs) (st : List aV) (M : aM) : go X 83 29 la st M = kK X 83 101 2 32 6 la st M := evK ((pm83 X 29).trans rfl) la st M
theorem e83_32 (X : aX) (la : aLs) (st : List aV) (M : aM) : go X 83 32 la st M = i_irt st M := evR ((pm83 X 32).trans rfl) la st M
theorem e83_33 (X : aX) (la : aLs) (st : List aV) (M : aM) : go X 83 33 la st M = kC X 83 (i_ci (nI 0) 34 la st M) := evC ((pm83 X 33).trans rfl) la st M
theorem e83_34 (X : aX) (la : aLs) (st : List aV) (M : aM) : go X 83 34 la st M = kC X 83 (i_sti 2 35 la st M) := evC ((pm83 X 34).trans rfl) la st M
theorem e83_35 (X : aX) (la : aLs) (st : List aV) (M : aM) : go X 83 35 la st M = kC X 83 (i_ldi 2 36 la st M) := evC ((pm83 X 35).trans rfl) la st M
theorem e83_36 (X : aX) (la : aLs) (st : List aV) (M : aM) : go X 83 36 la st M = kC X 83 (i_ldi 1 37 la st M) := evC ((pm83 X 36).trans rfl) la st M
theorem e83_37 (X : aX) (la : aLs) (st : List aV) (M : aM) : go X 83 37 la st M = kC X 83 (i_cml 40 122 la st M) := evC ((pm83 X 37).trans rfl) la st M
theorem e83_40 (X : aX) (la : aLs) (st : List aV) (M : aM) : go X 83 40 la st M = kC X 83 (i_lda 0 41 la st M) := evC ((pm83 X 40).trans rfl) la st M
theorem e83_41 (X : aX) (la : aLs) (st : List aV) (M : aM) : go X 83 41 la st M = kC X 83 (i_get 5 0 44 la st M) := evC ((pm83 X 41).trans rfl) la st M
theorem e83_44 (X : aX) (la : aLs) (st : List aV) (M : aM) : go X 83 44 la st M = kK X 83 45 1 47 4 la st M := evK ((pm83 X 44).trans rfl) la st M
theorem e83_47 (X : aX) (la : aLs) (st : List aV) (M : aM) : go X 83 47 la st M = kC X 83 (i_ci (nI 8) 49 la st M) := evC ((pm83 X 47).trans rfl) la st M
theorem e83_49 (X : aX) (la : aLs) (st : List aV) (M : aM) : go X 83 49 la st M = kC X 83 (i_div (fun x y => x - x / y * y) 50 la st M) := evC ((pm83 X 49).trans rfl) la st M
theorem e83_50 (X : aX) (la : aLs) (st : List aV) (M : aM) : go X 83 50 la st M = kC X 83 (i_sti 3 51 la st M) := evC ((pm83 X 50).trans rfl) la st M
theorem e83_51 (X : aX) (la : aLs) (st : List aV) (M : aM) : go X 83 51 la st M = kC X 83 (i_ci (nI 1) 52 la st M) := evC ((pm83 X 51).trans rfl) la st M
theorem e83_52 (X : aX) (la : aLs) (st : List aV) (M : aM) : go X 83 52 la st M = kC X 83 (i_lda 0 53 la st M) := evC ((pm83 X 52).trans rfl) la st M
theorem e83_53 (X : aX) (la : aLs) (st : List aV) (M : aM) : go X 83 53 la st M = kC X 83 (i_get 5 0 56 la st M) := evC ((pm83 X 53).trans rfl) la st M
theorem e83_56 (X : aX) (la : aLs) (st : List aV) (M : aM) : go X 83 56 la st M = kK X 83 45 1 59 4 la st M := evK ((pm83 X 56).trans rfl) la st M
theorem e83_59 (X : aX) (la : aLs) (st : List aV) (M : aM) : go X 83 59 la st M = kC X 83 (i_ci (nI 9) 61 la st M) := evC ((pm83 X 59).trans rfl) la st M
theorem e83_61 (X : aX) (la : aLs) (st : List aV) (M : aM) : go X 83 61 la st M = kC X 83 (i_div (fun x y => x - x / y * y) 62 la st M) := evC ((pm83 X 61).trans rfl) la st M
theorem e83_62 (X : aX) (la : aLs) (st : List aV) (M : aM) : go X 83 62 la st M = kC X 83 (i_bin (fun x y => x + y) 63 la st M) := evC ((pm83 X 62).trans rfl) la st M
theorem e83_63 (X : aX) (la : aLs) (st : List aV) (M : aM) : go X 83 63 la st M = kC X 83 (i_sti 4 65 la st M) := evC ((pm83 X 63).trans rfl) la st M
theorem e83_65 (X : aX) (la : aLs) (st : List aV) (M : aM) : go X 83 65 la st M = kC X 83 (i_lda 0 66 la st M) := evC ((pm83 X 65).trans rfl) la st M
theorem e83_66 (X : aX) (la : aLs) (st : List aV) (M : aM) : go X 83 66 la st M = kC X 83 (i_get 5 0 69 la st M) := evC ((pm83 X 66).trans rfl) la st M
theorem e83_69 (X : aX) (la : aLs) (st : List aV) (M : aM) : go X 83 69 la st M = kC X 83 (i_ldi 3 70 la st M) := evC ((pm83 X 69).trans rfl) la st M
theorem e83_70 (X : aX) (la : aLs) (st : List aV) (M : aM) : go X 83 70 la st M = kK X 83 27 2 73 4 la st M := evK ((pm83 X 70).trans rfl) la st M
theorem e83_73 (X : aX) (la : aLs) (st : List aV) (M : aM) : go X 83 73 la st M = kC X 83 (i_ife 108 76 la st M) := evC ((pm83 X 73).trans rfl) la st M
theorem e83_76 (X : aX) (la : aLs) (st : List aV) (M : aM) : go X 83 76 la st M = kC X 83 (i_lda 0 77 la st M) := evC ((pm83 X 76).trans rfl) la st M
theorem e83_77 (X : aX) (la : aLs) (st : List aV) (M : aM) : go X 83 77 la st M = kC X 83 (i_get 5 0 80 la st M) := evC ((pm83 X 77).trans rfl) la st M
theorem e83_80 (X : aX) (la : aLs) (st : List aV) (M : aM) : go X 83 80 la st M = kC X 83 (i_ldi 3 81 la st M) := evC ((pm83 X 80).trans rfl) la st M
theorem e83_81 (X : aX) (la : aLs) (st : List aV) (M : aM) : go X 83 81 la st M = kC X 83 (i_ci (nI 6) 83 la st M) := evC ((pm83 X 81).trans rfl) la st M
theorem e83_83 (X : aX) (la : aLs) (st : List aV) (M : aM) : go X 83 83 la st M = kK X 83 30 3 86 4 la st M := evK ((pm83 X 83).trans rfl) la st M
theorem e83_86 (X : aX) (la : aLs) (st : List aV) (M : aM) : go X 83 86 la st M = kC X 83 (i_ife 89 108 la st M) := evC ((pm83 X 86).trans rfl) la st M
theorem e83_89 (X : aX) (la : aLs) (st : List aV) (M : aM) : go X 83 89 la st M = kC X 83 (i_lda 0 90 la st M) := evC ((pm83 X 89).trans rfl) la st M
theorem e83_90 (X : aX) (la : aLs) (st : List aV) (M : aM) : go X 83 90 la st M = kC X 83 (i_get 5 0 93 la st M) := evC ((pm83 X 90).trans rfl) la st M
theorem e83_93 (X : aX) (la : aLs) (st : List aV) (M : aM) : go X 83 93 la st M = kC X 83 (i_ldi 3 94 la st M) := evC ((pm83 X 93).trans rfl) la st M
theorem e83_94 (X : aX) (la : aLs) (st : List aV) (M : aM) : go X 83 94 la st M = kC X 83 (i_ci (nI 5) 95 la st M) := evC ((pm83 X 94).trans rfl) la st M
theorem e83_95 (X : aX) (la : aLs) (st : List aV) (M : aM) : go X 83 95 la st M = kC X 83 (i_ldi 4 97 la st M) := evC ((pm83 X 95).trans rfl) la st M
theorem e83_97 (X : aX) (la : aLs) (st : List aV) (M : aM) : go X 83 97 la st M = kK X 83 32 4 100 4 la st M := evK ((pm83 X 97).trans rfl) la st M
theorem e83_100 (X : aX) (la : aLs) (st : List aV) (M : aM) : go X 83 100 la st M = kC X 83 (i_lda 0 101 la st M) := evC ((pm83 X 100).trans rfl) la st M
theorem e83_101 (X : aX) (la : aLs) (st : List aV) (M : aM) : go X 83 101 la st M = kC X 83 (i_get 5 0 104 la st M) := evC ((pm83 X 101).trans rfl) la st M
theorem e83_104 (X : aX) (la : aLs) (st : List aV) (M : aM) : go X 83 104 la st M = kC X 83 (i_ldi 3 105 la st M) := evC ((pm83 X 104).trans rfl) la st M
theorem e83_105 (X : aX) (la : aLs) (st : List aV) (M : aM) : go X 83 105 la st M = kK X 83 33 2 108 4 la st M := evK ((pm83 X 105).trans rfl) la st M
theorem e83_108 (X : aX) (la : aLs) (st : List aV) (M : aM) : go X 83 108 la st M = kC X 83 (i_lda 0 109 la st M) := evC ((pm83 X 108).trans rfl) la st M
theorem e83_109 (X : aX) (la : aLs) (st : List aV) (M : aM) : go X 83 109 la st M = kC X 83 (i_get 5 0 112 la st M) := evC ((pm83 X 109).trans rfl) la st M
theorem e83_112 (X : aX) (la : aLs) (st : List aV) (M : aM) : go X 83 112 la st M = kC X 83 (i_ci (nI 1) 113 la st M) := evC ((pm83 X 112).trans rfl) la st M
theorem e83_113 (X : aX) (la : aLs) (st : List aV) (M : aM) : go X 83 113 la st M = kK X 83 46 2 116 4 la st M := evK ((pm83 X 113).trans rfl) la st M
theorem e83_116 (X : aX) (la : aLs) (st : List aV) (M : aM) : go X 83 116 la st M = kC X 83 (i_inc 2 (nI 1) 119 la st M) := evC ((pm83 X 116).trans rfl) la st M
theorem e83_119 (X : aX) (la : aLs) (st : List aV) (M : aM) : go X 83 119 la st M = kC X 83 (i_go 35 la st M) := evC ((pm83 X 119).trans rfl) la st M
theorem e83_122 (X : aX) (la : aLs) (st : List aV) (M : aM) : go X 83 122 la st M = kC X 83 (i_lda 0 123 la st M) := evC ((pm83 X 122).trans rfl) la st M
theorem e83_123 (X : aX) (la : aLs) (st : List aV) (M : aM) : go X 83 123 la st M = kC X 83 (i_get 5 0 126 la st M) := evC ((pm83 X 123).trans rfl) la st M
theorem e83_126 (X : aX) (la : aLs) (st : List aV) (M : aM) : go X 83 126 la st M = kK X 83 35 1 129 4 la st M := evK ((pm83 X 126).trans rfl) la st M
theorem e83_129 (X : aX) (la : aLs) (st : List aV) (M : aM) : go X 83 129 la st M = i_irt st M := evR ((pm83 X 129).trans rfl) la st M
theorem c83 (X : aX) (as : List aV) (M : aM) : cl X 83 as M = if cs as ≤ 5 then go X 83 0 (ent 5 as) [] M else none := rfl
theorem pm84 (X : aX) (pc : Nat) : pg X 84 pc = lk pc (tb84 X) := rfl
theorem e84_0 (X : aX) (la : aLs) (st : List aV) (M : aM) : go X 84 0 la st M = kC X 84 (i_ldi 1 1 la st M) := evC ((pm84 X 0).trans rfl) la st M
theorem e84_1 (X : aX) (la : aLs) (st : List aV) (M : aM) : go X 84 1 la st M = kC X 84 (i_ci (nI 0) 2 la st M) := evC ((pm84 X 1).trans rfl) la st M
theorem e84_2 (X : aX) (la : aLs) (st : List aV) (M : aM) : go X 84 2 la st M = kC X 84 (i_ci (nI 10) 4 la st M) := evC ((pm84 X 2).trans rfl) la st M
theorem e84_4 (X : aX) (la : aLs) (st : List aV) (M : aM) : go X 84 4 la st M = kK X 84 102 3 7 0 la st M := evK ((pm84 X 4).trans rfl) la st M
theorem e84_7 (X : aX) (la : aLs) (st : List aV) (M : aM) : go X 84 7 la st M = kC X 84 (i_ife 19 10 la st M) := evC ((pm84 X 7).trans rfl) la st M
theorem e84_10 (X : aX) (la : aLs) (st : List aV) (M : aM) : go X 84 10 la st M = kC X 84 (i_ldi 2 11 la st M) := evC ((pm84 X 10).trans rfl) la st M
theorem e84_11 (X : aX) (la : aLs) (st : List aV) (M : aM) : go X 84 11 la st M = kC X 84 (i_ci (nI 0) 12 la st M) := evC ((pm84 X 11).trans rfl) la st M
theorem e84_12 (X : aX) (la : aLs) (st : List aV) (M : aM) : go X 84 12 la st M = kC X 84 (i_ci (nI 1) 13 la st M) := evC ((pm84 X 12).trans rfl) la st M
theorem e84_13 (X : aX) (la : aLs) (st : List aV) (M : aM) : go X 84 13 la st M = kK X 84 102 3 16 0 la st M := evK ((pm84 X 13).trans rfl) la st M
theorem e84_16 (X : aX) (la : aLs) (st : List aV) (M : aM) : go X 84 16 la st M = kC X 84 (i_ife 19 26 la st M) := evC ((pm84 X 16).trans rfl) la st M
theorem e84_19 (X : aX) (la : aLs) (st : List aV) (M : aM) : go X 84 19 la st M = kC X 84 (i_lda 0 20 la st M) := evC ((pm84 X 19).trans rfl) la st M
theorem e84_20 (X : aX) (la : aLs) (st : List aV) (M : aM) : go X 84 20 la st M = kC X 84 (i_ci (nI 0) 21 la st M) := evC ((pm84 X 20).trans rfl) la st M
theorem e84_21 (X : aX) (la : aLs) (st : List aV) (M : aM) : go X 84 21 la st M = kK X 84 101 2 24 6 la st M := evK ((pm84 X 21).trans rfl) la st M
theorem e84_24 (X : aX) (la : aLs) (st : List aV) (M : aM) : go X 84 24 la st M = kC X 84 (i_i2l 25 la st M) := evC ((pm84 X 24).trans rfl) la st M
theorem e84_25 (X : aX) (la : aLs) (st : List aV) (M : aM) : go X 84 25 la st M = i_jrt st M := evR ((pm84 X 25).trans rfl) la st M
theorem e84_26 (X : aX) (la : aLs) (st : List aV) (M : aM) : go X 84 26 la st M = kC X 84 (i_lda 0 27 la st M) := evC ((pm84 X 26).trans rfl) la st M
theorem e84_27 (X : aX) (la : aLs) (st : List aV) (M : aM) : go X 84 27 la st M = kC X 84 (i_get 5 0 30 la st M) := evC ((pm84 X 27).trans rfl) la st M
theorem e84_30 (X : aX) (la : aLs) (st : List aV) (M : aM) : go X 84 30 la st M = kK X 84 42 1 33 4 la st M := evK ((pm84 X 30).trans rfl) la st M
theorem e84_33 (X : aX) (la : aLs) (st : List aV) (M : aM) : go X 84 33 la st M = kC X 84 (i_sti 3 34 la st M) := evC ((pm84 X 33).trans rfl) la st M
theorem e84_34 (X : aX) (la : aLs) (st : List aV) (M : aM) : go X 84 34 la st M = kC X 84 (i_ldi 3 35 la st M) := evC ((pm84 X 34).trans rfl) la st M
theorem e84_35 (X : aX) (la : aLs) (st : List aV) (M : aM) : go X 84 35 la st M = kK X 84 111 1 38 0 la st M := evK ((pm84 X 35).trans rfl) la st M
theorem e84_38 (X : aX) (la : aLs) (st : List aV) (M : aM) : go X 84 38 la st M = kC X 84 (i_sti 4 40 la st M) := evC ((pm84 X 38).trans rfl) la st M
theorem e84_40 (X : aX) (la : aLs) (st : List aV) (M : aM) : go X 84 40 la st M = kC X 84 (i_ldi 2 41 la st M) := evC ((pm84 X 40).trans rfl) la st M
theorem e84_41 (X : aX) (la : aLs) (st : List aV) (M : aM) : go X 84 41 la st M = kC X 84 (i_ife 44 48 la st M) := evC ((pm84 X 41).trans rfl) la st M
theorem e84_44 (X : aX) (la : aLs) (st : List aV) (M : aM) : go X 84 44 la st M = kC X 84 (i_ldi 3 45 la st M) := evC ((pm84 X 44).trans rfl) la st M
theorem e84_45 (X : aX) (la : aLs) (st : List aV) (M : aM) : go X 84 45 la st M = kC X 84 (i_go 50 la st M) := evC ((pm84 X 45).trans rfl) la st M
theorem e84_48 (X : aX) (la : aLs) (st : List aV) (M : aM) : go X 84 48 la st M = kC X 84 (i_ci (nI 60) 50 la st M) := evC ((pm84 X 48).trans rfl) la st M
theorem e84_50 (X : aX) (la : aLs) (st : List aV) (M : aM) : go X 84 50 la st M = kC X 84 (i_sti 5 52 la st M) := evC ((pm84 X 50).trans rfl) la st M
theorem e84_52 (X : aX) (la : aLs) (st : List aV) (M : aM) : go X 84 52 la st M = kC X 84 (i_cj 1 53 la st M) := evC ((pm84 X 52).trans rfl) la st M
theorem e84_53 (X : aX) (la : aLs) (st : List aV) (M : aM) : go X 84 53 la st M = kC X 84 (i_stj 6 55 la st M) := evC ((pm84 X 53).trans rfl) la st M
theorem e84_55 (X : aX) (la : aLs) (st : List aV) (M : aM) : go X 84 55 la st M = kC X 84 (i_ci (nI 0) 56 la st M) := evC ((pm84 X 55).trans rfl) la st M
theorem e84_56 (X : aX) (la : aLs) (st : List aV) (M : aM) : go X 84 56 la st M = kC X 84 (i_sti 8 58 la st M) := evC ((pm84 X 56).trans rfl) la st M
theorem e84_58 (X : aX) (la : aLs) (st : List aV) (M : aM) : go X 84 58 la st M = kC X 84 (i_ldi 8 60 la st M) := evC ((pm84 X 58).trans rfl) la st M
theorem e84_60 (X : aX) (la : aLs) (st : List aV) (M : aM) : go X 84 60 la st M = kC X 84 (i_ldi 1 61 la st M) := evC ((pm84 X 60).trans rfl) la st M
theorem e84_61 (X : aX) (la : aLs) (st : List aV) (M : aM) : go X 84 61 la st M = kC X 84 (i_cml 64 81 la st M) := evC ((pm84 X 61).trans rfl) la st M
theorem e84_64 (X : aX) (la : aLs) (st : List aV) (M : aM) : go X 84 64 la st M = kC X 84 (i_ldj 6 66 la st M) := evC ((pm84 X 64).trans rfl) la st M
theorem e84_66 (X : aX) (la : aLs) (st : List aV) (M : aM) : go X 84 66 la st M = kC X 84 (i_ldi 5 68 la st M) := evC ((pm84 X 66).trans rfl) la st M
theorem e84_68 (X : aX) (la : aLs) (st : List aV) (M : aM) : go X 84 68 la st M = kC X 84 (i_ldi 4 70 la st M) := evC ((pm84 X 68).trans rfl) la st M
theorem e84_70 (X : aX) (la : aLs) (st : List aV) (M : aM) : go X 84 70 la st M = kC X 84 (i_div (fun x y => x / y) 71 la st M) := evC ((pm84 X 70).trans rfl) la st M
theorem e84_71 (X : aX) (la : aLs) (st : List aV) (M : aM) : go X 84 71 la st M = kC X 84 (i_i2l 72 la st M) := evC ((pm84 X 71).trans rfl) la st M
theorem e84_72 (X : aX) (la : aLs) (st : List aV) (M : aM) : go X 84 72 la st M = kC X 84 (i_bnj (fun x y => x * y) 73 la st M) := evC ((pm84 X 72).trans rfl) la st M
theorem e84_73 (X : aX) (la : aLs) (st : List aV) (M : aM) : go X 84 73 la st M = kC X 84 (i_stj 6 75 la st M) := evC ((pm84 X 73).trans rfl) la st M
theorem e84_75 (X : aX) (la : aLs) (st : List aV) (M : aM) : go X 84 75 la st M = kC X 84 (i_inc 8 (nI 1) 78 la st M) := evC ((pm84 X 75).trans rfl) la st M
theorem e84_78 (X : aX) (la : aLs) (st : List aV) (M : aM) : go X 84 78 la st M = kC X 84 (i_go 58 la st M) := evC ((pm84 X 78).trans rfl) la st M
theorem e84_81 (X : aX) (la : aLs) (st : List aV) (M : aM) : go X 84 81 la st M = kC X 84 (i_ldj 6 83 la st M) := evC ((pm84 X 81).trans rfl) la st M
theorem e84_83 (X : aX) (la : aLs) (st : List aV) (M : aM) : go X 84 83 la st M = i_jrt st M := evR ((pm84 X 83).trans rfl) la st M
theorem c84 (X : aX) (as : List aV) (M : aM) : cl X 84 as M = if cs as ≤ 9 then go X 84 0 (ent 9 as) [] M else none := rfl
theorem pm85 (X : aX) (pc : Nat) : pg X 85 pc = lk pc (tb85 X) := rfl
theorem e85_0 (X : aX) (la : aLs) (st : List aV) (M : aM) : go X 85 0 la st M = kC X 85 (i_lda 0 1 la st M) := evC ((pm85 X 0).trans rfl) la st M
theorem e85_1 (X : aX) (la : aLs) (st : List aV) (M : aM) : go X 85 1 la st M = kC X 85 (i_get 5 0 4 la st M) := evC ((pm85 X 1).trans rfl) la st M
theorem e85_4 (X : aX) (la : aLs) (st : List aV) (M : aM) : go X 85 4 la st M = kC X 85 (i_get 3 5 7 la st M) := evC ((pm85 X 4).trans rfl) la st M
theorem e85_7 (X : aX) (la : aLs) (st : List aV) (M : aM) : go X 85 7 la st M = kC X 85 (i_sti 2 8 la st M) := evC ((pm85 X 7).trans rfl) la st M
theorem e85_8 (X : aX) (la : aLs) (st : List aV) (M : aM) : go X 85 8 la st M = kC X 85 (i_lda 0 9 la st M) := evC ((pm85 X 8).trans rfl) la st M
theorem e85_9 (X : aX) (la : aLs) (st : List aV) (M : aM) : go X 85 9 la st M = kC X 85 (i_get 5 0 12 la st M) := evC ((pm85 X 9).trans rfl) la st M
theorem e85_12 (X : aX) (la : aLs) (st : List aV) (M : aM) : go X 85 12 la st M = kC X 85 (i_ldi 1 13 la st M) := evC ((pm85 X 12).trans rfl) la st M
theorem e85_13 (X : aX) (la : aLs) (st : List aV) (M : aM) : go X 85 13 la st M = kC X 85 (i_put 3 5 0 16 la st M) := evC ((pm85 X 13).trans rfl) la st M
theorem e85_16 (X : aX) (la : aLs) (st : List aV) (M : aM) : go X 85 16 la st M = kC X 85 (i_ldi 2 17 la st M) := evC ((pm85 X 16).trans rfl) la st M
theorem e85_17 (X : aX) (la : aLs) (st : List aV) (M : aM) : go X 85 17 la st M = i_irt st M := evR ((pm85 X 17).trans rfl) la st M
theorem c85 (X : aX) (as : List aV) (M : aM) : cl X 85 as M = if cs as ≤ 3 then go X 85 0 (ent 3 as) [] M else none := rfl
theorem pm86 (X : aX) (pc : Nat) : pg X 86 pc = lk pc (tb86 X) := rfl
theorem e86_0 (X : aX) (la : aLs) (st : List aV) (M : aM) : go X 86 0 la st M = kC X 86 (i_ldi 2 1 la st M) := evC ((pm86 X 0).trans rfl) la st M
theorem e86_1 (X : aX) (la : aLs) (st : List aV) (M : aM) : go X 86 1 la st M = kC X 86 (i_ci (nI 1) 2 la st M) := evC ((pm86 X 1).trans rfl) la st M
theorem e86_2 (X : aX) (la : aLs) (st : List aV) (M : aM) : go X 86 2 la st M = kC X 86 (i_ci (nI 4) 3 la st M) := evC ((pm86 X 2).trans rfl) la st M
theorem e86_3 (X : aX) (la : aLs) (st : List aV) (M : aM) : go X 86 3 la st M = kK X 86 102 3 6 0 la st M := evK ((pm86 X 3).trans rfl) la st M
theorem e86_6 (X : aX) (la : aLs) (st : List aV) (M : aM) : go X 86 6 la st M = kC X 86 (i_ife 9 15 la st M) := evC ((pm86 X 6).trans rfl) la st M
theorem e86_9 (X : aX) (la : aLs) (st : List aV) (M : aM) : go X 86 9 la st M = kC X 86 (i_lda 0 10 la st M) := evC ((pm86 X 9).trans rfl) la st M
theorem e86_10 (X : aX) (la : aLs) (st : List aV) (M : aM) : go X 86 10 la st M = kC X 86 (i_ci (nI 0) 11 la st M) := evC ((pm86 X 10).trans rfl) la st M
theorem e86_11 (X : aX) (la : aLs) (st : List aV) (M : aM) : go X 86 11 la st M = kK X 86 101 2 14 6 la st M := evK ((pm86 X 11).trans rfl) la st M
theorem e86_14 (X : aX) (la : aLs) (st : List aV) (M : aM) : go X 86 14 la st M = i_irt st M := evR ((pm86 X 14).trans rfl) la st M
theorem e86_15 (X : aX) (la : aLs) (st : List aV) (M : aM) : go X 86 15 la st M = kC X 86 (i_lda 0 16 la st M) := evC ((pm86 X 15).trans rfl) la st M
theorem e86_16 (X : aX) (la : aLs) (st : List aV) (M : aM) : go X 86 16 la st M = kC X 86 (i_get 5 3 19 la st M) := evC ((pm86 X 16).trans rfl) la st M
theorem e86_19 (X : aX) (la : aLs) (st : List aV) (M : aM) : go X 86 19 la st M = kC X 86 (i_get 0 0 22 la st M) := evC ((pm86 X 19).trans rfl) la st M
theorem e86_22 (X : aX) (la : aLs) (st : List aV) (M : aM) : go X 86 22 la st M = kC X 86 (i_ldi 2 23 la st M) := evC ((pm86 X 22).trans rfl) la st M
theorem e86_23 (X : aX) (la : aLs) (st : List aV) (M : aM) : go X 86 23 la st M = kK X 86 54 2 26 5 la st M := evK ((pm86 X 23).trans rfl) la st M
theorem e86_26 (X : aX) (la : aLs) (st : List aV) (M : aM) : go X 86 26 la st M = kC X 86 (i_ife 29 35 la st M) := evC ((pm86 X 26).trans rfl) la st M
theorem e86_29 (X : aX) (la : aLs) (st : List aV) (M : aM) : go X 86 29 la st M = kC X 86 (i_lda 0 30 la st M) := evC ((pm86 X 29).trans rfl) la st M
theorem e86_30 (X : aX) (la : aLs) (st : List aV) (M : aM) : go X 86 30 la st M = kC X 86 (i_ci (nI 1) 31 la st M) := evC ((pm86 X 30).trans rfl) la st M
theorem e86_31 (X : aX) (la : aLs) (st : List aV) (M : aM) : go X 86 31 la st M = kK X 86 101 2 34 6 la st M := evK ((pm86 X 31).trans rfl) la st M
theorem e86_34 (X : aX) (la : aLs) (st : List aV) (M : aM) : go X 86 34 la st M = i_irt st M := evR ((pm86 X 34).trans rfl) la st M
theorem e86_35 (X : aX) (la : aLs) (st : List aV) (M : aM) : go X 86 35 la st M = kC X 86 (i_ldi 2 36 la st M) := evC ((pm86 X 35).trans rfl) la st M
theorem e86_36 (X : aX) (la : aLs) (st : List aV) (M : aM) : go X 86 36 la st M = kC X 86 (i_ci (nI 1) 37 la st M) := evC ((pm86 X 36).trans rfl) la st M
theorem e86_37 (X : aX) (la : aLs) (st : List aV) (M : aM) : go X 86 37 la st M = kC X 86 (i_bin (fun x y => x - y) 38 la st M) := evC ((pm86 X 37).trans rfl) la st M
theorem e86_38 (X : aX) (la : aLs) (st : List aV) (M : aM) : go X 86 38 la st M = kC X 86 (i_sti 3 39 la st M) := evC ((pm86 X 38).trans rfl) la st M
theorem e86_39 (X : aX) (la : aLs) (st : List aV) (M : aM) : go X 86 39 la st M = kC X 86 (i_ldi 3 40 la st M) := evC ((pm86 X 39).trans rfl) la st M
theorem e86_40 (X : aX) (la : aLs) (st : List aV) (M : aM) : go X 86 40 la st M = kC X 86 (i_ifl 69 43 la st M) := evC ((pm86 X 40).trans rfl) la st M
theorem e86_43 (X : aX) (la : aLs) (st : List aV) (M : aM) : go X 86 43 la st M = kC X 86 (i_lda 0 44 la st M) := evC ((pm86 X 43).trans rfl) la st M
theorem e86_44 (X : aX) (la : aLs) (st : List aV) (M : aM) : go X 86 44 la st M = kC X 86 (i_get 5 3 47 la st M) := evC ((pm86 X 44).trans rfl) la st M
theorem e86_47 (X : aX) (la : aLs) (st : List aV) (M : aM) : go X 86 47 la st M = kC X 86 (i_get 0 0 50 la st M) := evC ((pm86 X 47).trans rfl) la st M
theorem e86_50 (X : aX) (la : aLs) (st : List aV) (M : aM) : go X 86 50 la st M = kC X 86 (i_ldi 1 51 la st M) := evC ((pm86 X 50).trans rfl) la st M
theorem e86_51 (X : aX) (la : aLs) (st : List aV) (M : aM) : go X 86 51 la st M = kC X 86 (i_ci (nI 8) 53 la st M) := evC ((pm86 X 51).trans rfl) la st M
theorem e86_53 (X : aX) (la : aLs) (st : List aV) (M : aM) : go X 86 53 la st M = kC X 86 (i_ldi 3 54 la st M) := evC ((pm86 X 53).trans rfl) la st M
theorem e86_54 (X : aX) (la : aLs) (st : List aV) (M : aM) : go X 86 54 la st M = kC X 86 (i_bin (fun x y => x * y) 55 la st M) := evC ((pm86 X 54).trans rfl) la st M
theorem e86_55 (X : aX) (la : aLs) (st : List aV) (M : aM) : go X 86 55 la st M = kC X 86 (i_bin (fun x y => (x.toUInt32 >>> (y.toUInt32 &&& Int32.toUInt32 31)).toInt32) 56 la st M) := evC ((pm86 X 55).trans rfl) la st M
theorem e86_56 (X : aX) (la : aLs) (st : List aV) (M : aM) : go X 86 56 la st M = kC X 86 (i_ci (nI 255) 59 la st M) := evC ((pm86 X 56).trans rfl) la st M
theorem e86_59 (X : aX) (la : aLs) (st : List aV) (M : aM) : go X 86 59 la st M = kC X 86 (i_bin (fun x y => x &&& y) 60 la st M) := evC ((pm86 X 59).trans rfl) la st M
theorem e86_60 (X : aX) (la : aLs) (st : List aV) (M : aM) : go X 86 60 la st M = kK X 86 55 2 63 5 la st M := evK ((pm86 X 60).trans rfl) la st M
theorem e86_63 (X : aX) (la : aLs) (st : List aV) (M : aM) : go X 86 63 la st M = kC X 86 (i_inc 3 (-1) 66 la st M) := evC ((pm86 X 63).trans rfl) la st M
theorem e86_66 (X : aX) (la : aLs) (st : List aV) (M : aM) : go X 86 66 la st M = kC X 86 (i_go 39 la st M) := evC ((pm86 X 66).trans rfl) la st M
theorem e86_69 (X : aX) (la : aLs) (st : List aV) (M : aM) : go X 86 69 la st M = kC X 86 (i_lda 0 70 la st M) := evC ((pm86 X 69).trans rfl) la st M
theorem e86_70 (X : aX) (la : aLs) (st : List aV) (M : aM) : go X 86 70 la st M = kC X 86 (i_get 5 3 73 la st M) := evC ((pm86 X 70).trans rfl) la st M
theorem e86_73 (X : aX) (la : aLs) (st : List aV) (M : aM) : go X 86 73 la st M = kC X 86 (i_get 0 0 76 la st M) := evC ((pm86 X 73).trans rfl) la st M
theorem e86_76 (X : aX) (la : aLs) (st : List aV) (M : aM) : go X 86 76 la st M = kC X 86 (i_get 4 1 79 la st M) := evC ((pm86 X 76).trans rfl) la st M
theorem e86_79 (X : aX) (la : aLs) (st : List aV) (M : aM) : go X 86 79 la st M = i_irt st M := evR ((pm86 X 79).trans rfl) la st M
theorem c86 (X : aX) (as : List aV) (M : aM) : cl X 86 as M = if cs as ≤ 4 then go X 86 0 (ent 4 as) [] M else none := rfl
theorem pm87 (X : aX) (pc : Nat) : pg X 87 pc = lk pc (tb87 X) := rfl
theorem e87_0 (X : aX) (la : aLs) (st : List aV) (M : aM) : go X 87 0 la st M = kC X 87 (i_lda 0 1 la st M) := evC ((pm87 X 0).trans rfl) la st M
theorem e87_1 (X : aX) (la : aLs) (st : List aV) (M : aM) : go X 87 1 la st M = kC X 87 (i_get 5 3 4 la st M) := evC ((pm87 X 1).trans rfl) la st M
theorem e87_4 (X : aX) (la : aLs) (st : List aV) (M : aM) : go X 87 4 la st M = kC X 87 (i_get 0 0 7 la st M) := evC ((pm87 X 4).trans rfl) la st M
theorem e87_7 (X : aX) (la : aLs) (st : List aV) (M : aM) : go X 87 7 la st M = kC X 87 (i_get 4 1 10 la st M) := evC ((pm87 X 7).trans rfl) la st M
theorem e87_10 (X : aX) (la : aLs) (st : List aV) (M : aM) : go X 87 10 la st M = kC X 87 (i_sti 1 11 la st M) := evC ((pm87 X 10).trans rfl) la st M
theorem e87_11 (X : aX) (la : aLs) (st : List aV) (M : aM) : go X 87 11 la st M = kC X 87 (i_lda 0 12 la st M) := evC ((pm87 X 11).trans rfl) la st M
theorem e87_12 (X : aX) (la : aLs) (st : List aV) (M : aM) : go X 87 12 la st M = kC X 87 (i_get 5 3 15 la st M) := evC ((pm87 X 12).trans rfl) la st M
theorem e87_15 (X : aX) (la : aLs) (st : List aV) (M : aM) : go X 87 15 la st M = kC X 87 (i_get 0 0 18 la st M) := evC ((pm87 X 15).trans rfl) la st M
theorem e87_18 (X : aX) (la : aLs) (st : List aV) (M : aM) : go X 87 18 la st M = kC X 87 (i_ci (nI 0) 19 la st M) := evC ((pm87 X 18).trans rfl) la st M
theorem e87_19 (X : aX) (la : aLs) (st : List aV) (M : aM) : go X 87 19 la st M = kC X 87 (i_put 4 1 0 22 la st M) := evC ((pm87 X 19).trans rfl) la st M
theorem e87_22 (X : aX) (la : aLs) (st : List aV) (M : aM) : go X 87 22 la st M = kC X 87 (i_ldi 1 23 la st M) := evC ((pm87 X 22).trans rfl) la st M
theorem e87_23 (X : aX) (la : aLs) (st : List aV) (M : aM) : go X 87 23 la st M = i_irt st M := evR ((pm87 X 23).trans rfl) la st M
theorem c87 (X : aX) (as : List aV) (M : aM) : cl X 87 as M = if cs as ≤ 2 then go X 87 0 (ent 2 as) [] M else none := rfl
theorem pm88 (X : aX) (pc : Nat) : pg X 88 pc = lk pc (tb88 X) := rfl
theorem e88_0 (X : aX) (la : aLs) (st : List aV) (M : aM) : go X 88 0 la st M = kC X 88 (i_lda 0 1 la st M) := evC ((pm88 X 0).trans rfl) la st M
theorem e88_1 (X : aX) (la : aLs) (st : List aV) (M : aM) : go X 88 1 la st M = kC X 88 (i_get 5 1 4 la st M) := evC ((pm88 X 1).trans rfl) la st M
theorem e88_4 (X : aX) (la : aLs) (st : List aV) (M : aM) : go X 88 4 la st M = kC X 88 (i_lda 0 5 la st M) := evC ((pm88 X 4).trans rfl) la st M
theorem e88_5 (X : aX) (la : aLs) (st : List aV) (M : aM) : go X 88 5 la st M = kC X 88 (i_get 5 0 8 la st M) := evC ((pm88 X 5).trans rfl) la st M
theorem e88_8 (X : aX) (la : aLs) (st : List aV) (M : aM) : go X 88 8 la st M = kK X 88 26 2 11 4 la st M := evK ((pm88 X 8).trans rfl) la st M
theorem e88_11 (X : aX) (la : aLs) (st : List aV) (M : aM) : go X 88 11 la st M = kC X 88 (i_lda 0 12 la st M) := evC ((pm88 X 11).trans rfl) la st M
theorem e88_12 (X : aX) (la : aLs) (st : List aV) (M : aM) : go X 88 12 la st M = kC X 88 (i_get 5 3 15 la st M) := evC ((pm88 X 12).trans rfl) la st M
theorem e88_15 (X : aX) (la : aLs) (st : List aV) (M : aM) : go X 88 15 la st M = kC X 88 (i_lda 0 16 la st M) := evC ((pm88 X 15).trans rfl) la st M
theorem e88_16 (X : aX) (la : aLs) (st : List aV) (M : aM) : go X 88 16 la st M = kC X 88 (i_get 5 1 19 la st M) := evC ((pm88 X 16).trans rfl) la st M
theorem e88_19 (X : aX) (la : aLs) (st : List aV) (M : aM) : go X 88 19 la st M = kK X 88 1 2 22 1 la st M := evK ((pm88 X 19).trans rfl) la st M
theorem e88_22 (X : aX) (la : aLs) (st : List aV) (M : aM) : go X 88 22 la st M = kC X 88 (i_sti 1 23 la st M) := evC ((pm88 X 22).trans rfl) la st M
theorem e88_23 (X : aX) (la : aLs) (st : List aV) (M : aM) : go X 88 23 la st M = kC X 88 (i_lda 0 24 la st M) := evC ((pm88 X 23).trans rfl) la st M
theorem e88_24 (X : aX) (la : aLs) (st : List aV) (M : aM) : go X 88 24 la st M = kC X 88 (i_get 5 3 27 la st M) := evC ((pm88 X 24).trans rfl) la st M
theorem e88_27 (X : aX) (la : aLs) (st : List aV) (M : aM) : go X 88 27 la st M = kC X 88 (i_get 0 0 30 la st M) := evC ((pm88 X 27).trans rfl) la st M
theorem e88_30 (X : aX) (la : aLs) (st : List aV) (M : aM) : go X 88 30 la st M = kC X 88 (i_ci (nI 0) 31 la st M) := evC ((pm88 X 30).trans rfl) la st M
theorem e88_31 (X : aX) (la : aLs) (st : List aV) (M : aM) : go X 88 31 la st M = kC X 88 (i_put 4 1 0 34 la st M) := evC ((pm88 X 31).trans rfl) la st M
theorem e88_34 (X : aX) (la : aLs) (st : List aV) (M : aM) : go X 88 34 la st M = kC X 88 (i_ldi 1 35 la st M) := evC ((pm88 X 34).trans rfl) la st M
theorem e88_35 (X : aX) (la : aLs) (st : List aV) (M : aM) : go X 88 35 la st M = kC X 88 (i_ifl 49 38 la st M) := evC ((pm88 X 35).trans rfl) la st M
theorem e88_38 (X : aX) (la : aLs) (st : List aV) (M : aM) : go X 88 38 la st M = kC X 88 (i_lda 0 39 la st M) := evC ((pm88 X 38).trans rfl) la st M
theorem e88_39 (X : aX) (la : aLs) (st : List aV) (M : aM) : go X 88 39 la st M = kC X 88 (i_get 5 0 42 la st M) := evC ((pm88 X 39).trans rfl) la st M
theorem e88_42 (X : aX) (la : aLs) (st : List aV) (M : aM) : go X 88 42 la st M = kC X 88 (i_lda 0 43 la st M) := evC ((pm88 X 42).trans rfl) la st M
theorem e88_43 (X : aX) (la : aLs) (st : List aV) (M : aM) : go X 88 43 la st M = kC X 88 (i_get 5 1 46 la st M) := evC ((pm88 X 43).trans rfl) la st M
theorem e88_46 (X : aX) (la : aLs) (st : List aV) (M : aM) : go X 88 46 la st M = kK X 88 26 2 49 4 la st M := evK ((pm88 X 46).trans rfl) la st M
theorem e88_49 (X : aX) (la : aLs) (st : List aV) (M : aM) : go X 88 49 la st M = kC X 88 (i_ldi 1 50 la st M) := evC ((pm88 X 49).trans rfl) la st M
theorem e88_50 (X : aX) (la : aLs) (st : List aV) (M : aM) : go X 88 50 la st M = i_irt st M := evR ((pm88 X 50).trans rfl) la st M
theorem c88 (X : aX) (as : List aV) (M : aM) : cl X 88 as M = if cs as ≤ 2 then go X 88 0 (ent 2 as) [] M else none := rfl
theorem pm89 (X : aX) (pc : Nat) : pg X 89 pc = lk pc (tb89 X) := rfl
theorem e89_0 (X : aX) (la : aLs) (st : List aV) (M : aM) : go X 89 0 la st M = kC X 89 (i_ldi 1 1 la st M) := evC ((pm89 X 0).trans rfl) la st M
theorem e89_1 (X : aX) (la : aLs) (st : List aV) (M : aM) : go X 89 1 la st M = kC X 89 (i_ci (nI 0) 2 la st M) := evC ((pm89 X 1).trans rfl) la st M
theorem e89_2 (X : aX) (la : aLs) (st : List aV) (M : aM) : go X 89 2 la st M = kC X 89 (i_ci (nI 9) 4 la st M) := evC ((pm89 X 2).trans rfl) la st M
theorem e89_4 (X : aX) (la : aLs) (st : List aV) (M : aM) : go X 89 4 la st M = kK X 89 102 3 7 0 la st M := evK ((pm89 X 4).trans rfl) la st M
theorem e89_7 (X : aX) (la : aLs) (st : List aV) (M : aM) : go X 89 7 la st M = kC X 89 (i_ife 26 10 la st M) := evC ((pm89 X 7).trans rfl) la st M
theorem e89_10 (X : aX) (la : aLs) (st : List aV) (M : aM) : go X 89 10 la st M = kC X 89 (i_ldi 2 11 la st M) := evC ((pm89 X 10).trans rfl) la st M
theorem e89_11 (X : aX) (la : aLs) (st : List aV) (M : aM) : go X 89 11 la st M = kC X 89 (i_ci (-1) 12 la st M) := evC ((pm89 X 11).trans rfl) la st M
theorem e89_12 (X : aX) (la : aLs) (st : List aV) (M : aM) : go X 89 12 la st M = kC X 89 (i_cme 32 15 la st M) := evC ((pm89 X 12).trans rfl) la st M
theorem e89_15 (X : aX) (la : aLs) (st : List aV) (M : aM) : go X 89 15 la st M = kC X 89 (i_lda 0 16 la st M) := evC ((pm89 X 15).trans rfl) la st M
theorem e89_16 (X : aX) (la : aLs) (st : List aV) (M : aM) : go X 89 16 la st M = kC X 89 (i_get 5 0 19 la st M) := evC ((pm89 X 16).trans rfl) la st M
theorem e89_19 (X : aX) (la : aLs) (st : List aV) (M : aM) : go X 89 19 la st M = kC X 89 (i_ldi 2 20 la st M) := evC ((pm89 X 19).trans rfl) la st M
theorem e89_20 (X : aX) (la : aLs) (st : List aV) (M : aM) : go X 89 20 la st M = kK X 89 27 2 23 4 la st M := evK ((pm89 X 20).trans rfl) la st M
theorem e89_23 (X : aX) (la : aLs) (st : List aV) (M : aM) : go X 89 23 la st M = kC X 89 (i_ife 26 32 la st M) := evC ((pm89 X 23).trans rfl) la st M
theorem e89_26 (X : aX) (la : aLs) (st : List aV) (M : aM) : go X 89 26 la st M = kC X 89 (i_lda 0 27 la st M) := evC ((pm89 X 26).trans rfl) la st M
theorem e89_27 (X : aX) (la : aLs) (st : List aV) (M : aM) : go X 89 27 la st M = kC X 89 (i_ci (nI 0) 28 la st M) := evC ((pm89 X 27).trans rfl) la st M
theorem e89_28 (X : aX) (la : aLs) (st : List aV) (M : aM) : go X 89 28 la st M = kK X 89 101 2 31 6 la st M := evK ((pm89 X 28).trans rfl) la st M
theorem e89_31 (X : aX) (la : aLs) (st : List aV) (M : aM) : go X 89 31 la st M = i_irt st M := evR ((pm89 X 31).trans rfl) la st M
theorem e89_32 (X : aX) (la : aLs) (st : List aV) (M : aM) : go X 89 32 la st M = kC X 89 (i_lda 0 33 la st M) := evC ((pm89 X 32).trans rfl) la st M
theorem e89_33 (X : aX) (la : aLs) (st : List aV) (M : aM) : go X 89 33 la st M = kC X 89 (i_get 5 0 36 la st M) := evC ((pm89 X 33).trans rfl) la st M
theorem e89_36 (X : aX) (la : aLs) (st : List aV) (M : aM) : go X 89 36 la st M = kC X 89 (i_get 3 1 39 la st M) := evC ((pm89 X 36).trans rfl) la st M
theorem e89_39 (X : aX) (la : aLs) (st : List aV) (M : aM) : go X 89 39 la st M = kC X 89 (i_ldi 1 40 la st M) := evC ((pm89 X 39).trans rfl) la st M
theorem e89_40 (X : aX) (la : aLs) (st : List aV) (M : aM) : go X 89 40 la st M = kC X 89 (i_ldi 2 41 la st M) := evC ((pm89 X 40).trans rfl) la st M
theorem e89_41 (X : aX) (la : aLs) (st : List aV) (M : aM) : go X 89 41 la st M = kC X 89 (i_ias 42 la st M) := evC ((pm89 X 41).trans rfl) la st M
theorem e89_42 (X : aX) (la : aLs) (st : List aV) (M : aM) : go X 89 42 la st M = kC X 89 (i_ci (nI 1) 43 la st M) := evC ((pm89 X 42).trans rfl) la st M
theorem e89_43 (X : aX) (la : aLs) (st : List aV) (M : aM) : go X 89 43 la st M = i_irt st M := evR ((pm89 X 43).trans rfl) la st M
theorem c89 (X : aX) (as : List aV) (M : aM) : cl X 89 as M = if cs as ≤ 3 then go X 89 0 (ent 3 as) [] M else none := rfl
theorem pm90 (X : aX) (pc : Nat) : pg X 90 pc = lk pc (tb90 X) := rfl
theorem e90_0 (X : aX) (la : aLs) (st : List aV) (M : aM) : go X 90 0 la st M = kC X 90 (i_ldi 1 1 la st M) := evC ((pm90 X 0).trans rfl) la st M
theorem e90_1 (X : aX) (la : aLs) (st : List aV) (M : aM) : go X 90 1 la st M = kC X 90 (i_ci (nI 0) 2 la st M) := evC ((pm90 X 1).trans rfl) la st M
theorem e90_2 (X : aX) (la : aLs) (st : List aV) (M : aM) : go X 90 2 la st M = kC X 90 (i_ci (nI 9) 4 la st M) := evC ((pm90 X 2).trans rfl) la st M
theorem e90_4 (X : aX) (la : aLs) (st : List aV) (M : aM) : go X 90 4 la st M = kK X 90 102 3 7 0 la st M := evK ((pm90 X 4).trans rfl) la st M
theorem e90_7 (X : aX) (la : aLs) (st : List aV) (M : aM) : go X 90 7 la st M = kC X 90 (i_ife 20 10 la st M) := evC ((pm90 X 7).trans rfl) la st M
theorem e90_10 (X : aX) (la : aLs) (st : List aV) (M : aM) : go X 90 10 la st M = kC X 90 (i_ldi 2 11 la st M) := evC ((pm90 X 10).trans rfl) la st M
theorem e90_11 (X : aX) (la : aLs) (st : List aV) (M : aM) : go X 90 11 la st M = kC X 90 (i_ci (nI 0) 12 la st M) := evC ((pm90 X 11).trans rfl) la st M
theorem e90_12 (X : aX) (la : aLs) (st : List aV) (M : aM) : go X 90 12 la st M = kC X 90 (i_ci (nI 6) 14 la st M) := evC ((pm90 X 12).trans rfl) la st M
theorem e90_14 (X : aX) (la : aLs) (st : List aV) (M : aM) : go X 90 14 la st M = kK X 90 102 3 17 0 la st M := evK ((pm90 X 14).trans rfl) la st M
theorem e90_17 (X : aX) (la : aLs) (st : List aV) (M : aM) : go X 90 17 la st M = kC X 90 (i_ife 20 26 la st M) := evC ((pm90 X 17).trans rfl) la st M
theorem e90_20 (X : aX) (la : aLs) (st : List aV) (M : aM) : go X 90 20 la st M = kC X 90 (i_lda 0 21 la st M) := evC ((pm90 X 20).trans rfl) la st M
theorem e90_21 (X : aX) (la : aLs) (st : List aV) (M : aM) : go X 90 21 la st M = kC X 90 (i_ci (nI 0) 22 la st M) := evC ((pm90 X 21).trans rfl) la st M
theorem e90_22 (X : aX) (la : aLs) (st : List aV) (M : aM) : go X 90 22 la st M = kK X 90 101 2 25 6 la st M := evK ((pm90 X 22).trans rfl) la st M
theorem e90_25 (X : aX) (la : aLs) (st : List aV) (M : aM) : go X 90 25 la st M = i_irt st M := evR ((pm90 X 25).trans rfl) la st M
theorem e90_26 (X : aX) (la : aLs) (st : List aV) (M : aM) : go X 90 26 la st M = kC X 90 (i_lda 0 27 la st M) := evC ((pm90 X 26).trans rfl) la st M
theorem e90_27 (X : aX) (la : aLs) (st : List aV) (M : aM) : go X 90 27 la st M = kC X 90 (i_get 5 0 30 la st M) := evC ((pm90 X 27).trans rfl) la st M
theorem e90_30 (X : aX) (la : aLs) (st : List aV) (M : aM) : go X 90 30 la st M = kC X 90 (i_get 3 1 33 la st M) := evC ((pm90 X 30).trans rfl) la st M
theorem e90_33 (X : aX) (la : aLs) (st : List aV) (M : aM) : go X 90 33 la st M = kC X 90 (i_ldi 1 34 la st M) := evC ((pm90 X 33).trans rfl) la st M
theorem e90_34 (X : aX) (la : aLs) (st : List aV) (M : aM) : go X 90 34 la st M = kC X 90 (i_ial X 35 la st M) := evC ((pm90 X 34).trans rfl) la st M
theorem e90_35 (X : aX) (la : aLs) (st : List aV) (M : aM) : go X 90 35 la st M = kC X 90 (i_sti 3 36 la st M) := evC ((pm90 X 35).trans rfl) la st M
theorem e90_36 (X : aX) (la : aLs) (st : List aV) (M : aM) : go X 90 36 la st M = kC X 90 (i_lda 0 37 la st M) := evC ((pm90 X 36).trans rfl) la st M
theorem e90_37 (X : aX) (la : aLs) (st : List aV) (M : aM) : go X 90 37 la st M = kC X 90 (i_get 5 0 40 la st M) := evC ((pm90 X 37).trans rfl) la st M
theorem e90_40 (X : aX) (la : aLs) (st : List aV) (M : aM) : go X 90 40 la st M = kC X 90 (i_ldi 3 41 la st M) := evC ((pm90 X 40).trans rfl) la st M
theorem e90_41 (X : aX) (la : aLs) (st : List aV) (M : aM) : go X 90 41 la st M = kK X 90 27 2 44 4 la st M := evK ((pm90 X 41).trans rfl) la st M
theorem e90_44 (X : aX) (la : aLs) (st : List aV) (M : aM) : go X 90 44 la st M = kC X 90 (i_ife 47 53 la st M) := evC ((pm90 X 44).trans rfl) la st M
theorem e90_47 (X : aX) (la : aLs) (st : List aV) (M : aM) : go X 90 47 la st M = kC X 90 (i_lda 0 48 la st M) := evC ((pm90 X 47).trans rfl) la st M
theorem e90_48 (X : aX) (la : aLs) (st : List aV) (M : aM) : go X 90 48 la st M = kC X 90 (i_ci (nI 5) 49 la st M) := evC ((pm90 X 48).trans rfl) la st M
theorem e90_49 (X : aX) (la : aLs) (st : List aV) (M : aM) : go X 90 49 la st M = kK X 90 101 2 52 6 la st M := evK ((pm90 X 49).trans rfl) la st M
theorem e90_52 (X : aX) (la : aLs) (st : List aV) (M : aM) : go X 90 52 la st M = i_irt st M := evR ((pm90 X 52).trans rfl) la st M
theorem e90_53 (X : aX) (la : aLs) (st : List aV) (M : aM) : go X 90 53 la st M = kC X 90 (i_lda 0 54 la st M) := evC ((pm90 X 53).trans rfl) la st M
theorem e90_54 (X : aX) (la : aLs) (st : List aV) (M : aM) : go X 90 54 la st M = kC X 90 (i_get 5 0 57 la st M) := evC ((pm90 X 54).trans rfl) la st M
theorem e90_57 (X : aX) (la : aLs) (st : List aV) (M : aM) : go X 90 57 la st M = kC X 90 (i_ldi 3 58 la st M) := evC ((pm90 X 57).trans rfl) la st M
theorem e90_58 (X : aX) (la : aLs) (st : List aV) (M : aM) : go X 90 58 la st M = kC X 90 (i_ci (nI 0) 59 la st M) := evC ((pm90 X 58).trans rfl) la st M
theorem e90_59 (X : aX) (la : aLs) (st : List aV) (M : aM) : go X 90 59 la st M = kK X 90 30 3 62 4 la st M := evK ((pm90 X 59).trans rfl) la st M
theorem e90_62 (X : aX) (la : aLs) (st : List aV) (M : aM) : go X 90 62 la st M = kC X 90 (i_ldi 2 63 la st M) := evC ((pm90 X 62).trans rfl) la st M
theorem e90_63 (X : aX) (la : aLs) (st : List aV) (M : aM) : go X 90 63 la st M = kK X 90 17 2 66 0 la st M := evK ((pm90 X 63).trans rfl) la st M
theorem e90_66 (X : aX) (la : aLs) (st : List aV) (M : aM) : go X 90 66 la st M = kC X 90 (i_ife 73 69 la st M) := evC ((pm90 X 66).trans rfl) la st M
theorem e90_69 (X : aX) (la : aLs) (st : List aV) (M : aM) : go X 90 69 la st M = kC X 90 (i_ldi 3 70 la st M) := evC ((pm90 X 69).trans rfl) la st M
theorem e90_70 (X : aX) (la : aLs) (st : List aV) (M : aM) : go X 90 70 la st M = kC X 90 (i_go 78 la st M) := evC ((pm90 X 70).trans rfl) la st M
theorem e90_73 (X : aX) (la : aLs) (st : List aV) (M : aM) : go X 90 73 la st M = kC X 90 (i_lda 0 74 la st M) := evC ((pm90 X 73).trans rfl) la st M
theorem e90_74 (X : aX) (la : aLs) (st : List aV) (M : aM) : go X 90 74 la st M = kC X 90 (i_ci (nI 2) 75 la st M) := evC ((pm90 X 74).trans rfl) la st M
theorem e90_75 (X : aX) (la : aLs) (st : List aV) (M : aM) : go X 90 75 la st M = kK X 90 101 2 78 6 la st M := evK ((pm90 X 75).trans rfl) la st M
theorem e90_78 (X : aX) (la : aLs) (st : List aV) (M : aM) : go X 90 78 la st M = i_irt st M := evR ((pm90 X 78).trans rfl) la st M
theorem c90 (X : aX) (as : List aV) (M : aM) : cl X 90 as M = if cs as ≤ 4 then go X 90 0 (ent 4 as) [] M else none := rfl
theorem pm91 (X : aX) (pc : Nat) : pg X 91 pc = lk pc (tb91 X) := rfl
theorem e91_0 (X : aX) (la : aLs) (st : List aV) (M : aM) : go X 91 0 la st M = kC X 91 (i_ldi 1 1 la st M) := evC ((pm91 X 0).trans rfl) la st M
theorem e91_1 (X : aX) (la : aLs) (st : List aV) (M : aM) : go X 91 1 la st M = kK X 91 108 1 4 0 la st M := evK ((pm91 X 1).trans rfl) la st M
theorem e91_4 (X : aX) (la : aLs) (st : List aV) (M : aM) : go X 91 4 la st M = kC X 91 (i_ife 29 7 la st M) := evC ((pm91 X 4).trans rfl) la st M
theorem e91_7 (X : aX) (la : aLs) (st : List aV) (M : aM) : go X 91 7 la st M = kC X 91 (i_ldi 2 8 la st M) := evC ((pm91 X 7).trans rfl) la st M
theorem e91_8 (X : aX) (la : aLs) (st : List aV) (M : aM) : go X 91 8 la st M = kC X 91 (i_ife 35 11 la st M) := evC ((pm91 X 8).trans rfl) la st M
theorem e91_11 (X : aX) (la : aLs) (st : List aV) (M : aM) : go X 91 11 la st M = kC X 91 (i_ldi 2 12 la st M) := evC ((pm91 X 11).trans rfl) la st M
theorem e91_12 (X : aX) (la : aLs) (st : List aV) (M : aM) : go X 91 12 la st M = kC X 91 (i_ci (nI 8) 14 la st M) := evC ((pm91 X 12).trans rfl) la st M
theorem e91_14 (X : aX) (la : aLs) (st : List aV) (M : aM) : go X 91 14 la st M = kC X 91 (i_cme 35 17 la st M) := evC ((pm91 X 14).trans rfl) la st M
theorem e91_17 (X : aX) (la : aLs) (st : List aV) (M : aM) : go X 91 17 la st M = kC X 91 (i_ldi 2 18 la st M) := evC ((pm91 X 17).trans rfl) la st M
theorem e91_18 (X : aX) (la : aLs) (st : List aV) (M : aM) : go X 91 18 la st M = kC X 91 (i_ci (nI 16) 20 la st M) := evC ((pm91 X 18).trans rfl) la st M
theorem e91_20 (X : aX) (la : aLs) (st : List aV) (M : aM) : go X 91 20 la st M = kC X 91 (i_cme 35 23 la st M) := evC ((pm91 X 20).trans rfl) la st M
theorem e91_23 (X : aX) (la : aLs) (st : List aV) (M : aM) : go X 91 23 la st M = kC X 91 (i_ldi 2 24 la st M) := evC ((pm91 X 23).trans rfl) la st M
theorem e91_24 (X : aX) (la : aLs) (st : List aV) (M : aM) : go X 91 24 la st M = kC X 91 (i_ci (nI 32) 26 la st M) := evC ((pm91 X 24).trans rfl) la st M
theorem e91_26 (X : aX) (la : aLs) (st : List aV) (M : aM) : go X 91 26 la st M = kC X 91 (i_cme 35 29 la st M) := evC ((pm91 X 26).trans rfl) la st M
theorem e91_29 (X : aX) (la : aLs) (st : List aV) (M : aM) : go X 91 29 la st M = kC X 91 (i_lda 0 30 la st M) := evC ((pm91 X 29).trans rfl) la st M
theorem e91_30 (X : aX) (la : aLs) (st : List aV) (M : aM) : go X 91 30 la st M = kC X 91 (i_ci (nI 0) 31 la st M) := evC ((pm91 X 30).trans rfl) la st M
theorem e91_31 (X : aX) (la : aLs) (st : List aV) (M : aM) : go X 91 31 la st M = kK X 91 101 2 34 6 la st M := evK ((pm91 X 31).trans rfl) la st M
theorem e91_34 (X : aX) (la : aLs) (st : List aV) (M : aM) : go X 91 34 la st M = i_irt st M := evR ((pm91 X 34).trans rfl) la st M
theorem e91_35 (X : aX) (la : aLs) (st : List aV) (M : aM) : go X 91 35 la st M = kC X 91 (i_ldi 3 36 la st M) := evC ((pm91 X 35).trans rfl) la st M
theorem e91_36 (X : aX) (la : aLs) (st : List aV) (M : aM) : go X 91 36 la st M = kC X 91 (i_ifl 39 46 la st M) := evC ((pm91 X 36).trans rfl) la st M
theorem e91_39 (X : aX) (la : aLs) (st : List aV) (M : aM) : go X 91 39 la st M = kC X 91 (i_lda 0 40 la st M) := evC ((pm91 X 39).trans rfl) la st M
theorem e91_40 (X : aX) (la : aLs) (st : List aV) (M : aM) : go X 91 40 la st M = kC X 91 (i_ci (nI 6) 42 la st M) := evC ((pm91 X 40).trans rfl) la st M
theorem e91_42 (X : aX) (la : aLs) (st : List aV) (M : aM) : go X 91 42 la st M = kK X 91 101 2 45 6 la st M := evK ((pm91 X 42).trans rfl) la st M
theorem e91_45 (X : aX) (la : aLs) (st : List aV) (M : aM) : go X 91 45 la st M = i_irt st M := evR ((pm91 X 45).trans rfl) la st M
theorem e91_46 (X : aX) (la : aLs) (st : List aV) (M : aM) : go X 91 46 la st M = kC X 91 (i_ldi 3 47 la st M) := evC ((pm91 X 46).trans rfl) la st M
theorem e91_47 (X : aX) (la : aLs) (st : List aV) (M : aM) : go X 91 47 la st M = kC X 91 (i_ci (nI 40) 49 la st M) := evC ((pm91 X 47).trans rfl) la st M
theorem e91_49 (X : aX) (la : aLs) (st : List aV) (M : aM) : go X 91 49 la st M = kC X 91 (i_cmg 52 58 la st M) := evC ((pm91 X 49).trans rfl) la st M
theorem e91_52 (X : aX) (la : aLs) (st : List aV) (M : aM) : go X 91 52 la st M = kC X 91 (i_lda 0 53 la st M) := evC ((pm91 X 52).trans rfl) la st M
theorem e91_53 (X : aX) (la : aLs) (st : List aV) (M : aM) : go X 91 53 la st M = kC X 91 (i_ci (nI 0) 54 la st M) := evC ((pm91 X 53).trans rfl) la st M
theorem e91_54 (X : aX) (la : aLs) (st : List aV) (M : aM) : go X 91 54 la st M = kK X 91 101 2 57 6 la st M := evK ((pm91 X 54).trans rfl) la st M
theorem e91_57 (X : aX) (la : aLs) (st : List aV) (M : aM) : go X 91 57 la st M = i_irt st M := evR ((pm91 X 57).trans rfl) la st M
theorem e91_58 (X : aX) (la : aLs) (st : List aV) (M : aM) : go X 91 58 la st M = kC X 91 (i_lda 0 59 la st M) := evC ((pm91 X 58).trans rfl) la st M
theorem e91_59 (X : aX) (la : aLs) (st : List aV) (M : aM) : go X 91 59 la st M = kC X 91 (i_get 5 4 62 la st M) := evC ((pm91 X 59).trans rfl) la st M
theorem e91_62 (X : aX) (la : aLs) (st : List aV) (M : aM) : go X 91 62 la st M = kC X 91 (i_ldi 1 63 la st M) := evC ((pm91 X 62).trans rfl) la st M
theorem e91_63 (X : aX) (la : aLs) (st : List aV) (M : aM) : go X 91 63 la st M = kC X 91 (i_aal 64 la st M) := evC ((pm91 X 63).trans rfl) la st M
theorem e91_64 (X : aX) (la : aLs) (st : List aV) (M : aM) : go X 91 64 la st M = kC X 91 (i_ldi 2 65 la st M) := evC ((pm91 X 64).trans rfl) la st M
theorem e91_65 (X : aX) (la : aLs) (st : List aV) (M : aM) : go X 91 65 la st M = kC X 91 (i_ldi 3 66 la st M) := evC ((pm91 X 65).trans rfl) la st M
theorem e91_66 (X : aX) (la : aLs) (st : List aV) (M : aM) : go X 91 66 la st M = kK X 91 10 3 69 2 la st M := evK ((pm91 X 66).trans rfl) la st M
theorem e91_69 (X : aX) (la : aLs) (st : List aV) (M : aM) : go X 91 69 la st M = kC X 91 (i_lda 0 70 la st M) := evC ((pm91 X 69).trans rfl) la st M
theorem e91_70 (X : aX) (la : aLs) (st : List aV) (M : aM) : go X 91 70 la st M = kC X 91 (i_get 5 4 73 la st M) := evC ((pm91 X 70).trans rfl) la st M
theorem e91_73 (X : aX) (la : aLs) (st : List aV) (M : aM) : go X 91 73 la st M = kC X 91 (i_ldi 1 74 la st M) := evC ((pm91 X 73).trans rfl) la st M
theorem e91_74 (X : aX) (la : aLs) (st : List aV) (M : aM) : go X 91 74 la st M = kC X 91 (i_aal 75 la st M) := evC ((pm91 X 74).trans rfl) la st M
theorem e91_75 (X : aX) (la : aLs) (st : List aV) (M : aM) : go X 91 75 la st M = kC X 91 (i_get 1 2 78 la st M) := evC ((pm91 X 75).trans rfl) la st M
theorem e91_78 (X : aX) (la : aLs) (st : List aV) (M : aM) : go X 91 78 la st M = i_irt st M := evR ((pm91 X 78).trans rfl) la st M
theorem c91 (X : aX) (as : List aV) (M : aM) : cl X 91 as M = if cs as ≤ 4 then go X 91 0 (ent 4 as) [] M else none := rfl
theorem pm92 (X : aX) (pc : Nat) : pg X 92 pc = lk pc (tb92 X) := rfl
theorem e92_0 (X : aX) (la : aLs) (st : List aV) (M : aM) : go X 92 0 la st M = kC X 92 (i_lda 0 1 la st M) := evC ((pm92 X 0).trans rfl) la st M
theorem e92_1 (X : aX) (la : aLs) (st : List aV) (M : aM) : go X 92 1 la st M = kC X 92 (i_ldi 1 2 la st M) := evC ((pm92 X 1).trans rfl) la st M
theorem e92_2 (X : aX) (la : aLs) (st : List aV) (M : aM) : go X 92 2 la st M = kK X 92 109 2 5 6 la st M := evK ((pm92 X 2).trans rfl) la st M
theorem e92_5 (X : aX) (la : aLs) (st : List aV) (M : aM) : go X 92 5 la st M = kC X 92 (i_sti 4 7 la st M) := evC ((pm92 X 5).trans rfl) la st M
theorem e92_7 (X : aX) (la : aLs) (st : List aV) (M : aM) : go X 92 7 la st M = kC X 92 (i_ldi 4 9 la st M) := evC ((pm92 X 7).trans rfl) la st M
theorem e92_9 (X : aX) (la : aLs) (st : List aV) (M : aM) : go X 92 9 la st M = kC X 92 (i_ci (-1) 10 la st M) := evC ((pm92 X 9).trans rfl) la st M
theorem e92_10 (X : aX) (la : aLs) (st : List aV) (M : aM) : go X 92 10 la st M = kC X 92 (i_cme 20 13 la st M) := evC ((pm92 X 10).trans rfl) la st M
theorem e92_13 (X : aX) (la : aLs) (st : List aV) (M : aM) : go X 92 13 la st M = kC X 92 (i_lda 0 14 la st M) := evC ((pm92 X 13).trans rfl) la st M
theorem e92_14 (X : aX) (la : aLs) (st : List aV) (M : aM) : go X 92 14 la st M = kC X 92 (i_ldi 4 16 la st M) := evC ((pm92 X 14).trans rfl) la st M
theorem e92_16 (X : aX) (la : aLs) (st : List aV) (M : aM) : go X 92 16 la st M = kK X 92 101 2 19 6 la st M := evK ((pm92 X 16).trans rfl) la st M
theorem e92_19 (X : aX) (la : aLs) (st : List aV) (M : aM) : go X 92 19 la st M = i_irt st M := evR ((pm92 X 19).trans rfl) la st M
theorem e92_20 (X : aX) (la : aLs) (st : List aV) (M : aM) : go X 92 20 la st M = kC X 92 (i_ldi 2 21 la st M) := evC ((pm92 X 20).trans rfl) la st M
theorem e92_21 (X : aX) (la : aLs) (st : List aV) (M : aM) : go X 92 21 la st M = kC X 92 (i_ci (nI 0) 22 la st M) := evC ((pm92 X 21).trans rfl) la st M
theorem e92_22 (X : aX) (la : aLs) (st : List aV) (M : aM) : go X 92 22 la st M = kC X 92 (i_lda 0 23 la st M) := evC ((pm92 X 22).trans rfl) la st M
theorem e92_23 (X : aX) (la : aLs) (st : List aV) (M : aM) : go X 92 23 la st M = kC X 92 (i_get 5 4 26 la st M) := evC ((pm92 X 23).trans rfl) la st M
theorem e92_26 (X : aX) (la : aLs) (st : List aV) (M : aM) : go X 92 26 la st M = kC X 92 (i_ldi 1 27 la st M) := evC ((pm92 X 26).trans rfl) la st M
theorem e92_27 (X : aX) (la : aLs) (st : List aV) (M : aM) : go X 92 27 la st M = kC X 92 (i_aal 28 la st M) := evC ((pm92 X 27).trans rfl) la st M
theorem e92_28 (X : aX) (la : aLs) (st : List aV) (M : aM) : go X 92 28 la st M = kC X 92 (i_get 1 2 31 la st M) := evC ((pm92 X 28).trans rfl) la st M
theorem e92_31 (X : aX) (la : aLs) (st : List aV) (M : aM) : go X 92 31 la st M = kC X 92 (i_ci (nI 1) 32 la st M) := evC ((pm92 X 31).trans rfl) la st M
theorem e92_32 (X : aX) (la : aLs) (st : List aV) (M : aM) : go X 92 32 la st M = kC X 92 (i_bin (fun x y => x - y) 33 la st M) := evC ((pm92 X 32).trans rfl) la st M
theorem e92_33 (X : aX) (la : aLs) (st : List aV) (M : aM) : go X 92 33 la st M = kK X 92 102 3 36 0 la st M := evK ((pm92 X 33).trans rfl) la st M
theorem e92_36 (X : aX) (la : aLs) (st : List aV) (M : aM) : go X 92 36 la st M = kC X 92 (i_ife 39 45 la st M) := evC ((pm92 X 36).trans rfl) la st M
theorem e92_39 (X : aX) (la : aLs) (st : List aV) (M : aM) : go X 92 39 la st M = kC X 92 (i_lda 0 40 la st M) := evC ((pm92 X 39).trans rfl) la st M
theorem e92_40 (X : aX) (la : aLs) (st : List aV) (M : aM) : go X 92 40 la st M = kC X 92 (i_ci (nI 0) 41 la st M) := evC ((pm92 X 40).trans rfl) la st M
theorem e92_41 (X : aX) (la : aLs) (st : List aV) (M : aM) : go X 92 41 la st M = kK X 92 101 2 44 6 la st M := evK ((pm92 X 41).trans rfl) la st M
theorem e92_44 (X : aX) (la : aLs) (st : List aV) (M : aM) : go X 92 44 la st M = i_irt st M := evR ((pm92 X 44).trans rfl) la st M
theorem e92_45 (X : aX) (la : aLs) (st : List aV) (M : aM) : go X 92 45 la st M = kC X 92 (i_lda 0 46 la st M) := evC ((pm92 X 45).trans rfl) la st M
theorem e92_46 (X : aX) (la : aLs) (st : List aV) (M : aM) : go X 92 46 la st M = kC X 92 (i_get 5 4 49 la st M) := evC ((pm92 X 46).trans rfl) la st M
theorem e92_49 (X : aX) (la : aLs) (st : List aV) (M : aM) : go X 92 49 la st M = kC X 92 (i_ldi 1 50 la st M) := evC ((pm92 X 49).trans rfl) la st M
theorem e92_50 (X : aX) (la : aLs) (st : List aV) (M : aM) : go X 92 50 la st M = kC X 92 (i_aal 51 la st M) := evC ((pm92 X 50).trans rfl) la st M
theorem e92_51 (X : aX) (la : aLs) (st : List aV) (M : aM) : go X 92 51 la st M = kC X 92 (i_ldi 2 52 la st M) := evC ((pm92 X 51).trans rfl) la st M
theorem e92_52 (X : aX) (la : aLs) (st : List aV) (M : aM) : go X 92 52 la st M = kC X 92 (i_ldi 3 53 la st M) := evC ((pm92 X 52).trans rfl) la st M
theorem e92_53 (X : aX) (la : aLs) (st : List aV) (M : aM) : go X 92 53 la st M = kK X 92 11 3 56 2 la st M := evK ((pm92 X 53).trans rfl) la st M
theorem e92_56 (X : aX) (la : aLs) (st : List aV) (M : aM) : go X 92 56 la st M = kC X 92 (i_ci (nI 1) 57 la st M) := evC ((pm92 X 56).trans rfl) la st M
theorem e92_57 (X : aX) (la : aLs) (st : List aV) (M : aM) : go X 92 57 la st M = i_irt st M := evR ((pm92 X 57).trans rfl) la st M
theorem c92 (X : aX) (as : List aV) (M : aM) : cl X 92 as M = if cs as ≤ 5 then go X 92 0 (ent 5 as) [] M else none := rfl
theorem pm93 (X : aX) (pc : Nat) : pg X 93 pc = lk pc (tb93 X) := rfl
theorem e93_0 (X : aX) (la : aLs) (st : List aV) (M : aM) : go X 93 0 la st M = kC X 93 (i_ldi 1 1 la st M) := evC ((pm93 X 0).trans rfl) la st M
theorem e93_1 (X : aX) (la : aLs) (st : List aV) (M : aM) : go X 93 1 la st M = kK X 93 108 1 4 0 la st M := evK ((pm93 X 1).trans rfl) la st M
theorem e93_4 (X : aX) (la : aLs) (st : List aV) (M : aM) : go X 93 4 la st M = kC X 93 (i_ife 14 7 la st M) := evC ((pm93 X 4).trans rfl) la st M
theorem e93_7 (X : aX) (la : aLs) (st : List aV) (M : aM) : go X 93 7 la st M = kC X 93 (i_ldi 3 8 la st M) := evC ((pm93 X 7).trans rfl) la st M
theorem e93_8 (X : aX) (la : aLs) (st : List aV) (M : aM) : go X 93 8 la st M = kK X 93 108 1 11 0 la st M := evK ((pm93 X 8).trans rfl) la st M
theorem e93_11 (X : aX) (la : aLs) (st : List aV) (M : aM) : go X 93 11 la st M = kC X 93 (i_ife 14 20 la st M) := evC ((pm93 X 11).trans rfl) la st M
theorem e93_14 (X : aX) (la : aLs) (st : List aV) (M : aM) : go X 93 14 la st M = kC X 93 (i_lda 0 15 la st M) := evC ((pm93 X 14).trans rfl) la st M
theorem e93_15 (X : aX) (la : aLs) (st : List aV) (M : aM) : go X 93 15 la st M = kC X 93 (i_ci (nI 0) 16 la st M) := evC ((pm93 X 15).trans rfl) la st M
theorem e93_16 (X : aX) (la : aLs) (st : List aV) (M : aM) : go X 93 16 la st M = kK X 93 101 2 19 6 la st M := evK ((pm93 X 16).trans rfl) la st M
theorem e93_19 (X : aX) (la : aLs) (st : List aV) (M : aM) : go X 93 19 la st M = i_irt st M := evR ((pm93 X 19).trans rfl) la st M
theorem e93_20 (X : aX) (la : aLs) (st : List aV) (M : aM) : go X 93 20 la st M = kC X 93 (i_lda 0 21 la st M) := evC ((pm93 X 20).trans rfl) la st M
theorem e93_21 (X : aX) (la : aLs) (st : List aV) (M : aM) : go X 93 21 la st M = kC X 93 (i_get 5 4 24 la st M) := evC ((pm93 X 21).trans rfl) la st M
theorem e93_24 (X : aX) (la : aLs) (st : List aV) (M : aM) : go X 93 24 la st M = kC X 93 (i_ldi 1 25 la st M) := evC ((pm93 X 24).trans rfl) la st M
theorem e93_25 (X : aX) (la : aLs) (st : List aV) (M : aM) : go X 93 25 la st M = kC X 93 (i_aal 26 la st M) := evC ((pm93 X 25).trans rfl) la st M
theorem e93_26 (X : aX) (la : aLs) (st : List aV) (M : aM) : go X 93 26 la st M = kC X 93 (i_sta 6 28 la st M) := evC ((pm93 X 26).trans rfl) la st M
theorem e93_28 (X : aX) (la : aLs) (st : List aV) (M : aM) : go X 93 28 la st M = kC X 93 (i_lda 0 29 la st M) := evC ((pm93 X 28).trans rfl) la st M
theorem e93_29 (X : aX) (la : aLs) (st : List aV) (M : aM) : go X 93 29 la st M = kC X 93 (i_get 5 4 32 la st M) := evC ((pm93 X 29).trans rfl) la st M
theorem e93_32 (X : aX) (la : aLs) (st : List aV) (M : aM) : go X 93 32 la st M = kC X 93 (i_ldi 3 33 la st M) := evC ((pm93 X 32).trans rfl) la st M
theorem e93_33 (X : aX) (la : aLs) (st : List aV) (M : aM) : go X 93 33 la st M = kC X 93 (i_aal 34 la st M) := evC ((pm93 X 33).trans rfl) la st M
theorem e93_34 (X : aX) (la : aLs) (st : List aV) (M : aM) : go X 93 34 la st M = kC X 93 (i_sta 7 36 la st M) := evC ((pm93 X 34).trans rfl) la st M
theorem e93_36 (X : aX) (la : aLs) (st : List aV) (M : aM) : go X 93 36 la st M = kC X 93 (i_lda 6 38 la st M) := evC ((pm93 X 36).trans rfl) la st M
theorem e93_38 (X : aX) (la : aLs) (st : List aV) (M : aM) : go X 93 38 la st M = kC X 93 (i_get 1 1 41 la st M) := evC ((pm93 X 38).trans rfl) la st M
theorem e93_41 (X : aX) (la : aLs) (st : List aV) (M : aM) : go X 93 41 la st M = kC X 93 (i_ife 52 44 la st M) := evC ((pm93 X 41).trans rfl) la st M
theorem e93_44 (X : aX) (la : aLs) (st : List aV) (M : aM) : go X 93 44 la st M = kC X 93 (i_lda 7 46 la st M) := evC ((pm93 X 44).trans rfl) la st M
theorem e93_46 (X : aX) (la : aLs) (st : List aV) (M : aM) : go X 93 46 la st M = kC X 93 (i_get 1 1 49 la st M) := evC ((pm93 X 46).trans rfl) la st M
theorem e93_49 (X : aX) (la : aLs) (st : List aV) (M : aM) : go X 93 49 la st M = kC X 93 (i_ife 52 58 la st M) := evC ((pm93 X 49).trans rfl) la st M
theorem e93_52 (X : aX) (la : aLs) (st : List aV) (M : aM) : go X 93 52 la st M = kC X 93 (i_lda 0 53 la st M) := evC ((pm93 X 52).trans rfl) la st M
theorem e93_53 (X : aX) (la : aLs) (st : List aV) (M : aM) : go X 93 53 la st M = kC X 93 (i_ci (nI 5) 54 la st M) := evC ((pm93 X 53).trans rfl) la st M
theorem e93_54 (X : aX) (la : aLs) (st : List aV) (M : aM) : go X 93 54 la st M = kK X 93 101 2 57 6 la st M := evK ((pm93 X 54).trans rfl) la st M
theorem e93_57 (X : aX) (la : aLs) (st : List aV) (M : aM) : go X 93 57 la st M = i_irt st M := evR ((pm93 X 57).trans rfl) la st M
theorem e93_58 (X : aX) (la : aLs) (st : List aV) (M : aM) : go X 93 58 la st M = kC X 93 (i_lda 6 60 la st M) := evC ((pm93 X 58).trans rfl) la st M
theorem e93_60 (X : aX) (la : aLs) (st : List aV) (M : aM) : go X 93 60 la st M = kC X 93 (i_get 1 1 63 la st M) := evC ((pm93 X 60).trans rfl) la st M
theorem e93_63 (X : aX) (la : aLs) (st : List aV) (M : aM) : go X 93 63 la st M = kC X 93 (i_lda 7 65 la st M) := evC ((pm93 X 63).trans rfl) la st M
theorem e93_65 (X : aX) (la : aLs) (st : List aV) (M : aM) : go X 93 65 la st M = kC X 93 (i_get 1 1 68 la st M) := evC ((pm93 X 65).trans rfl) la st M
theorem e93_68 (X : aX) (la : aLs) (st : List aV) (M : aM) : go X 93 68 la st M = kC X 93 (i_cme 77 71 la st M) := evC ((pm93 X 68).trans rfl) la st M
theorem e93_71 (X : aX) (la : aLs) (st : List aV) (M : aM) : go X 93 71 la st M = kC X 93 (i_lda 0 72 la st M) := evC ((pm93 X 71).trans rfl) la st M
theorem e93_72 (X : aX) (la : aLs) (st : List aV) (M : aM) : go X 93 72 la st M = kC X 93 (i_ci (nI 2) 73 la st M) := evC ((pm93 X 72).trans rfl) la st M
theorem e93_73 (X : aX) (la : aLs) (st : List aV) (M : aM) : go X 93 73 la st M = kK X 93 101 2 76 6 la st M := evK ((pm93 X 73).trans rfl) la st M
theorem e93_76 (X : aX) (la : aLs) (st : List aV) (M : aM) : go X 93 76 la st M = i_irt st M := evR ((pm93 X 76).trans rfl) la st M
theorem e93_77 (X : aX) (la : aLs) (st : List aV) (M : aM) : go X 93 77 la st M = kC X 93 (i_lda 6 79 la st M) := evC ((pm93 X 77).trans rfl) la st M
theorem e93_79 (X : aX) (la : aLs) (st : List aV) (M : aM) : go X 93 79 la st M = kC X 93 (i_ldi 2 80 la st M) := evC ((pm93 X 79).trans rfl) la st M
theorem e93_80 (X : aX) (la : aLs) (st : List aV) (M : aM) : go X 93 80 la st M = kC X 93 (i_ldi 5 82 la st M) := evC ((pm93 X 80).trans rfl) la st M
theorem e93_82 (X : aX) (la : aLs) (st : List aV) (M : aM) : go X 93 82 la st M = kK X 93 12 3 85 2 la st M := evK ((pm93 X 82).trans rfl) la st M
theorem e93_85 (X : aX) (la : aLs) (st : List aV) (M : aM) : go X 93 85 la st M = kC X 93 (i_ife 100 88 la st M) := evC ((pm93 X 85).trans rfl) la st M
theorem e93_88 (X : aX) (la : aLs) (st : List aV) (M : aM) : go X 93 88 la st M = kC X 93 (i_lda 7 90 la st M) := evC ((pm93 X 88).trans rfl) la st M
theorem e93_90 (X : aX) (la : aLs) (st : List aV) (M : aM) : go X 93 90 la st M = kC X 93 (i_ldi 4 92 la st M) := evC ((pm93 X 90).trans rfl) la st M
theorem e93_92 (X : aX) (la : aLs) (st : List aV) (M : aM) : go X 93 92 la st M = kC X 93 (i_ldi 5 94 la st M) := evC ((pm93 X 92).trans rfl) la st M
theorem e93_94 (X : aX) (la : aLs) (st : List aV) (M : aM) : go X 93 94 la st M = kK X 93 12 3 97 2 la st M := evK ((pm93 X 94).trans rfl) la st M
theorem e93_97 (X : aX) (la : aLs) (st : List aV) (M : aM) : go X 93 97 la st M = kC X 93 (i_ife 100 106 la st M) := evC ((pm93 X 97).trans rfl) la st M
theorem e93_100 (X : aX) (la : aLs) (st : List aV) (M : aM) : go X 93 100 la st M = kC X 93 (i_lda 0 101 la st M) := evC ((pm93 X 100).trans rfl) la st M
theorem e93_101 (X : aX) (la : aLs) (st : List aV) (M : aM) : go X 93 101 la st M = kC X 93 (i_ci (nI 0) 102 la st M) := evC ((pm93 X 101).trans rfl) la st M
theorem e93_102 (X : aX) (la : aLs) (st : List aV) (M : aM) : go X 93 102 la st M = kK X 93 101 2 105 6 la st M := evK ((pm93 X 102).trans rfl) la st M
theorem e93_105 (X : aX) (la : aLs) (st : List aV) (M : aM) : go X 93 105 la st M = i_irt st M := evR ((pm93 X 105).trans rfl) la st M
theorem e93_106 (X : aX) (la : aLs) (st : List aV) (M : aM) : go X 93 106 la st M = kC X 93 (i_lda 6 108 la st M) := evC ((pm93 X 106).trans rfl) la st M
theorem e93_108 (X : aX) (la : aLs) (st : List aV) (M : aM) : go X 93 108 la st M = kC X 93 (i_get 1 0 111 la st M) := evC ((pm93 X 108).trans rfl) la st M
theorem e93_111 (X : aX) (la : aLs) (st : List aV) (M : aM) : go X 93 111 la st M = kC X 93 (i_ldi 2 112 la st M) := evC ((pm93 X 111).trans rfl) la st M
theorem e93_112 (X : aX) (la : aLs) (st : List aV) (M : aM) : go X 93 112 la st M = kC X 93 (i_lda 7 114 la st M) := evC ((pm93 X 112).trans rfl) la st M
theorem e93_114 (X : aX) (la : aLs) (st : List aV) (M : aM) : go X 93 114 la st M = kC X 93 (i_get 1 0 117 la st M) := evC ((pm93 X 114).trans rfl) la st M
theorem e93_117 (X : aX) (la : aLs) (st : List aV) (M : aM) : go X 93 117 la st M = kC X 93 (i_ldi 4 119 la st M) := evC ((pm93 X 117).trans rfl) la st M
theorem e93_119 (X : aX) (la : aLs) (st : List aV) (M : aM) : go X 93 119 la st M = kC X 93 (i_ldi 5 121 la st M) := evC ((pm93 X 119).trans rfl) la st M
theorem e93_121 (X : aX) (la : aLs) (st : List aV) (M : aM) : go X 93 121 la st M = kC X 93 (i_acp X 124 la st M) := evC ((pm93 X 121).trans rfl) la st M
theorem e93_124 (X : aX) (la : aLs) (st : List aV) (M : aM) : go X 93 124 la st M = kC X 93 (i_ldi 5 126 la st M) := evC ((pm93 X 124).trans rfl) la st M
theorem e93_126 (X : aX) (la : aLs) (st : List aV) (M : aM) : go X 93 126 la st M = i_irt st M := evR ((pm93 X 126).trans rfl) la st M
theorem c93 (X : aX) (as : List aV) (M : aM) : cl X 93 as M = if cs as ≤ 8 then go X 93 0 (ent 8 as) [] M else none := rfl
theorem pm94 (X : aX) (pc : Nat) : pg X 94 pc = lk pc (tb94 X) := rfl
theorem e94_0 (X : aX) (la : aLs) (st : List aV) (M : aM) : go X 94 0 la st M = kC X 94 (i_lda 0 1 la st M) := evC ((pm94 X 0).trans rfl) la st M
theorem e94_1 (X : aX) (la : aLs) (st : List aV) (M : aM) : go X 94 1 la st M = kC X 94 (i_ldi 1 2 la st M) := evC ((pm94 X 1).trans rfl) la st M
theorem e94_2 (X : aX) (la : aLs) (st : List aV) (M : aM) : go X 94 2 la st M = kK X 94 109 2 5 6 la st M := evK ((pm94 X 2).trans rfl) la st M
theorem e94_5 (X : aX) (la : aLs) (st : List aV) (M : aM) : go X 94 5 la st M = kC X 94 (i_sti 2 6 la st M) := evC ((pm94 X 5).trans rfl) la st M
theorem e94_6 (X : aX) (la : aLs) (st : List aV) (M : aM) : go X 94 6 la st M = kC X 94 (i_ldi 2 7 la st M) := evC ((pm94 X 6).trans rfl) la st M
theorem e94_7 (X : aX) (la : aLs) (st : List aV) (M : aM) : go X 94 7 la st M = kC X 94 (i_ci (-1) 8 la st M) := evC ((pm94 X 7).trans rfl) la st M
theorem e94_8 (X : aX) (la : aLs) (st : List aV) (M : aM) : go X 94 8 la st M = kC X 94 (i_cme 17 11 la st M) := evC ((pm94 X 8).trans rfl) la st M
theorem e94_11 (X : aX) (la : aLs) (st : List aV) (M : aM) : go X 94 11 la st M = kC X 94 (i_lda 0 12 la st M) := evC ((pm94 X 11).trans rfl) la st M
theorem e94_12 (X : aX) (la : aLs) (st : List aV) (M : aM) : go X 94 12 la st M = kC X 94 (i_ldi 2 13 la st M) := evC ((pm94 X 12).trans rfl) la st M
theorem e94_13 (X : aX) (la : aLs) (st : List aV) (M : aM) : go X 94 13 la st M = kK X 94 101 2 16 6 la st M := evK ((pm94 X 13).trans rfl) la st M
theorem e94_16 (X : aX) (la : aLs) (st : List aV) (M : aM) : go X 94 16 la st M = i_irt st M := evR ((pm94 X 16).trans rfl) la st M
theorem e94_17 (X : aX) (la : aLs) (st : List aV) (M : aM) : go X 94 17 la st M = kC X 94 (i_ci (nI 0) 18 la st M) := evC ((pm94 X 17).trans rfl) la st M
theorem e94_18 (X : aX) (la : aLs) (st : List aV) (M : aM) : go X 94 18 la st M = kC X 94 (i_sti 3 19 la st M) := evC ((pm94 X 18).trans rfl) la st M
theorem e94_19 (X : aX) (la : aLs) (st : List aV) (M : aM) : go X 94 19 la st M = kC X 94 (i_ci (nI 0) 20 la st M) := evC ((pm94 X 19).trans rfl) la st M
theorem e94_20 (X : aX) (la : aLs) (st : List aV) (M : aM) : go X 94 20 la st M = kC X 94 (i_sti 4 22 la st M) := evC ((pm94 X 20).trans rfl) la st M
theorem e94_22 (X : aX) (la : aLs) (st : List aV) (M : aM) : go X 94 22 la st M = kC X 94 (i_ldi 4 24 la st M) := evC ((pm94 X 22).trans rfl) la st M
theorem e94_24 (X : aX) (la : aLs) (st : List aV) (M : aM) : go X 94 24 la st M = kC X 94 (i_lda 0 25 la st M) := evC ((pm94 X 24).trans rfl) la st M
theorem e94_25 (X : aX) (la : aLs) (st : List aV) (M : aM) : go X 94 25 la st M = kC X 94 (i_get 5 4 28 la st M) := evC ((pm94 X 25).trans rfl) la st M
theorem e94_28 (X : aX) (la : aLs) (st : List aV) (M : aM) : go X 94 28 la st M = kC X 94 (i_ldi 1 29 la st M) := evC ((pm94 X 28).trans rfl) la st M
theorem e94_29 (X : aX) (la : aLs) (st : List aV) (M : aM) : go X 94 29 la st M = kC X 94 (i_aal 30 la st M) := evC ((pm94 X 29).trans rfl) la st M
theorem e94_30 (X : aX) (la : aLs) (st : List aV) (M : aM) : go X 94 30 la st M = kC X 94 (i_get 1 2 33 la st M) := evC ((pm94 X 30).trans rfl) la st M
theorem e94_33 (X : aX) (la : aLs) (st : List aV) (M : aM) : go X 94 33 la st M = kC X 94 (i_cml 36 97 la st M) := evC ((pm94 X 33).trans rfl) la st M
theorem e94_36 (X : aX) (la : aLs) (st : List aV) (M : aM) : go X 94 36 la st M = kC X 94 (i_lda 0 37 la st M) := evC ((pm94 X 36).trans rfl) la st M
theorem e94_37 (X : aX) (la : aLs) (st : List aV) (M : aM) : go X 94 37 la st M = kC X 94 (i_get 5 4 40 la st M) := evC ((pm94 X 37).trans rfl) la st M
theorem e94_40 (X : aX) (la : aLs) (st : List aV) (M : aM) : go X 94 40 la st M = kC X 94 (i_ldi 1 41 la st M) := evC ((pm94 X 40).trans rfl) la st M
theorem e94_41 (X : aX) (la : aLs) (st : List aV) (M : aM) : go X 94 41 la st M = kC X 94 (i_aal 42 la st M) := evC ((pm94 X 41).trans rfl) la st M
theorem e94_42 (X : aX) (la : aLs) (st : List aV) (M : aM) : go X 94 42 la st M = kC X 94 (i_get 1 0 45 la st M) := evC ((pm94 X 42).trans rfl) la st M
theorem e94_45 (X : aX) (la : aLs) (st : List aV) (M : aM) : go X 94 45 la st M = kC X 94 (i_ldi 4 47 la st M) := evC ((pm94 X 45).trans rfl) la st M
theorem e94_47 (X : aX) (la : aLs) (st : List aV) (M : aM) : go X 94 47 la st M = kC X 94 (i_ial X 48 la st M) := evC ((pm94 X 47).trans rfl) la st M
theorem e94_48 (X : aX) (la : aLs) (st : List aV) (M : aM) : go X 94 48 la st M = kC X 94 (i_sti 5 50 la st M) := evC ((pm94 X 48).trans rfl) la st M
theorem e94_50 (X : aX) (la : aLs) (st : List aV) (M : aM) : go X 94 50 la st M = kC X 94 (i_lda 0 51 la st M) := evC ((pm94 X 50).trans rfl) la st M
theorem e94_51 (X : aX) (la : aLs) (st : List aV) (M : aM) : go X 94 51 la st M = kC X 94 (i_get 5 0 54 la st M) := evC ((pm94 X 51).trans rfl) la st M
theorem e94_54 (X : aX) (la : aLs) (st : List aV) (M : aM) : go X 94 54 la st M = kC X 94 (i_ldi 4 56 la st M) := evC ((pm94 X 54).trans rfl) la st M
theorem e94_56 (X : aX) (la : aLs) (st : List aV) (M : aM) : go X 94 56 la st M = kK X 94 27 2 59 4 la st M := evK ((pm94 X 56).trans rfl) la st M
theorem e94_59 (X : aX) (la : aLs) (st : List aV) (M : aM) : go X 94 59 la st M = kC X 94 (i_ife 97 62 la st M) := evC ((pm94 X 59).trans rfl) la st M
theorem e94_62 (X : aX) (la : aLs) (st : List aV) (M : aM) : go X 94 62 la st M = kC X 94 (i_ldi 5 64 la st M) := evC ((pm94 X 62).trans rfl) la st M
theorem e94_64 (X : aX) (la : aLs) (st : List aV) (M : aM) : go X 94 64 la st M = kC X 94 (i_ci (nI 0) 65 la st M) := evC ((pm94 X 64).trans rfl) la st M
theorem e94_65 (X : aX) (la : aLs) (st : List aV) (M : aM) : go X 94 65 la st M = kC X 94 (i_ci (nI 59) 67 la st M) := evC ((pm94 X 65).trans rfl) la st M
theorem e94_67 (X : aX) (la : aLs) (st : List aV) (M : aM) : go X 94 67 la st M = kK X 94 102 3 70 0 la st M := evK ((pm94 X 67).trans rfl) la st M
theorem e94_70 (X : aX) (la : aLs) (st : List aV) (M : aM) : go X 94 70 la st M = kC X 94 (i_ife 73 76 la st M) := evC ((pm94 X 70).trans rfl) la st M
theorem e94_73 (X : aX) (la : aLs) (st : List aV) (M : aM) : go X 94 73 la st M = kC X 94 (i_go 97 la st M) := evC ((pm94 X 73).trans rfl) la st M
theorem e94_76 (X : aX) (la : aLs) (st : List aV) (M : aM) : go X 94 76 la st M = kC X 94 (i_lda 0 77 la st M) := evC ((pm94 X 76).trans rfl) la st M
theorem e94_77 (X : aX) (la : aLs) (st : List aV) (M : aM) : go X 94 77 la st M = kC X 94 (i_get 5 0 80 la st M) := evC ((pm94 X 77).trans rfl) la st M
theorem e94_80 (X : aX) (la : aLs) (st : List aV) (M : aM) : go X 94 80 la st M = kC X 94 (i_ldi 4 82 la st M) := evC ((pm94 X 80).trans rfl) la st M
theorem e94_82 (X : aX) (la : aLs) (st : List aV) (M : aM) : go X 94 82 la st M = kC X 94 (i_ci (nI 1) 83 la st M) := evC ((pm94 X 82).trans rfl) la st M
theorem e94_83 (X : aX) (la : aLs) (st : List aV) (M : aM) : go X 94 83 la st M = kC X 94 (i_ldi 5 85 la st M) := evC ((pm94 X 83).trans rfl) la st M
theorem e94_85 (X : aX) (la : aLs) (st : List aV) (M : aM) : go X 94 85 la st M = kK X 94 32 4 88 4 la st M := evK ((pm94 X 85).trans rfl) la st M
theorem e94_88 (X : aX) (la : aLs) (st : List aV) (M : aM) : go X 94 88 la st M = kC X 94 (i_inc 3 (nI 1) 91 la st M) := evC ((pm94 X 88).trans rfl) la st M
theorem e94_91 (X : aX) (la : aLs) (st : List aV) (M : aM) : go X 94 91 la st M = kC X 94 (i_inc 4 (nI 1) 94 la st M) := evC ((pm94 X 91).trans rfl) la st M
theorem e94_94 (X : aX) (la : aLs) (st : List aV) (M : aM) : go X 94 94 la st M = kC X 94 (i_go 22 la st M) := evC ((pm94 X 94).trans rfl) la st M
theorem e94_97 (X : aX) (la : aLs) (st : List aV) (M : aM) : go X 94 97 la st M = kC X 94 (i_ldi 3 98 la st M) := evC ((pm94 X 97).trans rfl) la st M
theorem e94_98 (X : aX) (la : aLs) (st : List aV) (M : aM) : go X 94 98 la st M = i_irt st M := evR ((pm94 X 98).trans rfl) la st M
theorem c94 (X : aX) (as : List aV) (M : aM) : cl X 94 as M = if cs as ≤ 6 then go X 94 0 (ent 6 as) [] M else none := rfl
theorem pm95 (X : aX) (pc : Nat) : pg X 95 pc = lk pc (tb95 X) := rfl
theorem e95_0 (X : aX) (la : aLs) (st : List aV) (M : aM) : go X 95 0 la st M = kC X 95 (i_lda 0 1 la st M) := evC ((pm95 X 0).trans rfl) la st M
theorem e95_1 (X : aX) (la : aLs) (st : List aV) (M : aM) : go X 95 1 la st M = kC X 95 (i_ldi 1 2 la st M) := evC ((pm95 X 1).trans rfl) la st M
theorem e95_2 (X : aX) (la : aLs) (st : List aV) (M : aM) : go X 95 2 la st M = kK X 95 109 2 5 6 la st M := evK ((pm95 X 2).trans rfl) la st M
theorem e95_5 (X : aX) (la : aLs) (st : List aV) (M : aM) : go X 95 5 la st M = kC X 95 (i_sti 2 6 la st M) := evC ((pm95 X 5).trans rfl) la st M
theorem e95_6 (X : aX) (la : aLs) (st : List aV) (M : aM) : go X 95 6 la st M = kC X 95 (i_ldi 2 7 la st M) := evC ((pm95 X 6).trans rfl) la st M
theorem e95_7 (X : aX) (la : aLs) (st : List aV) (M : aM) : go X 95 7 la st M = kC X 95 (i_ci (-1) 8 la st M) := evC ((pm95 X 7).trans rfl) la st M
theorem e95_8 (X : aX) (la : aLs) (st : List aV) (M : aM) : go X 95 8 la st M = kC X 95 (i_cme 17 11 la st M) := evC ((pm95 X 8).trans rfl) la st M
theorem e95_11 (X : aX) (la : aLs) (st : List aV) (M : aM) : go X 95 11 la st M = kC X 95 (i_lda 0 12 la st M) := evC ((pm95 X 11).trans rfl) la st M
theorem e95_12 (X : aX) (la : aLs) (st : List aV) (M : aM) : go X 95 12 la st M = kC X 95 (i_ldi 2 13 la st M) := evC ((pm95 X 12).trans rfl) la st M
theorem e95_13 (X : aX) (la : aLs) (st : List aV) (M : aM) : go X 95 13 la st M = kK X 95 101 2 16 6 la st M := evK ((pm95 X 13).trans rfl) la st M
theorem e95_16 (X : aX) (la : aLs) (st : List aV) (M : aM) : go X 95 16 la st M = i_irt st M := evR ((pm95 X 16).trans rfl) la st M
theorem e95_17 (X : aX) (la : aLs) (st : List aV) (M : aM) : go X 95 17 la st M = kC X 95 (i_ci (nI 0) 18 la st M) := evC ((pm95 X 17).trans rfl) la st M
theorem e95_18 (X : aX) (la : aLs) (st : List aV) (M : aM) : go X 95 18 la st M = kC X 95 (i_sti 3 19 la st M) := evC ((pm95 X 18).trans rfl) la st M
theorem e95_19 (X : aX) (la : aLs) (st : List aV) (M : aM) : go X 95 19 la st M = kC X 95 (i_ldi 3 20 la st M) := evC ((pm95 X 19).trans rfl) la st M
theorem e95_20 (X : aX) (la : aLs) (st : List aV) (M : aM) : go X 95 20 la st M = kC X 95 (i_lda 0 21 la st M) := evC ((pm95 X 20).trans rfl) la st M
theorem e95_21 (X : aX) (la : aLs) (st : List aV) (M : aM) : go X 95 21 la st M = kC X 95 (i_get 5 4 24 la st M) := evC ((pm95 X 21).trans rfl) la st M
theorem e95_24 (X : aX) (la : aLs) (st : List aV) (M : aM) : go X 95 24 la st M = kC X 95 (i_ldi 1 25 la st M) := evC ((pm95 X 24).trans rfl) la st M
theorem e95_25 (X : aX) (la : aLs) (st : List aV) (M : aM) : go X 95 25 la st M = kC X 95 (i_aal 26 la st M) := evC ((pm95 X 25).trans rfl) la st M
theorem e95_26 (X : aX) (la : aLs) (st : List aV) (M : aM) : go X 95 26 la st M = kC X 95 (i_get 1 2 29 la st M) := evC ((pm95 X 26).trans rfl) la st M
theorem e95_29 (X : aX) (la : aLs) (st : List aV) (M : aM) : go X 95 29 la st M = kC X 95 (i_cml 32 77 la st M) := evC ((pm95 X 29).trans rfl) la st M
theorem e95_32 (X : aX) (la : aLs) (st : List aV) (M : aM) : go X 95 32 la st M = kC X 95 (i_lda 0 33 la st M) := evC ((pm95 X 32).trans rfl) la st M
theorem e95_33 (X : aX) (la : aLs) (st : List aV) (M : aM) : go X 95 33 la st M = kC X 95 (i_get 5 0 36 la st M) := evC ((pm95 X 33).trans rfl) la st M
theorem e95_36 (X : aX) (la : aLs) (st : List aV) (M : aM) : go X 95 36 la st M = kC X 95 (i_ldi 3 37 la st M) := evC ((pm95 X 36).trans rfl) la st M
theorem e95_37 (X : aX) (la : aLs) (st : List aV) (M : aM) : go X 95 37 la st M = kK X 95 27 2 40 4 la st M := evK ((pm95 X 37).trans rfl) la st M
theorem e95_40 (X : aX) (la : aLs) (st : List aV) (M : aM) : go X 95 40 la st M = kC X 95 (i_ife 67 43 la st M) := evC ((pm95 X 40).trans rfl) la st M
theorem e95_43 (X : aX) (la : aLs) (st : List aV) (M : aM) : go X 95 43 la st M = kC X 95 (i_lda 0 44 la st M) := evC ((pm95 X 43).trans rfl) la st M
theorem e95_44 (X : aX) (la : aLs) (st : List aV) (M : aM) : go X 95 44 la st M = kC X 95 (i_get 5 0 47 la st M) := evC ((pm95 X 44).trans rfl) la st M
theorem e95_47 (X : aX) (la : aLs) (st : List aV) (M : aM) : go X 95 47 la st M = kC X 95 (i_ldi 3 48 la st M) := evC ((pm95 X 47).trans rfl) la st M
theorem e95_48 (X : aX) (la : aLs) (st : List aV) (M : aM) : go X 95 48 la st M = kC X 95 (i_ci (nI 9) 50 la st M) := evC ((pm95 X 48).trans rfl) la st M
theorem e95_50 (X : aX) (la : aLs) (st : List aV) (M : aM) : go X 95 50 la st M = kK X 95 30 3 53 4 la st M := evK ((pm95 X 50).trans rfl) la st M
theorem e95_53 (X : aX) (la : aLs) (st : List aV) (M : aM) : go X 95 53 la st M = kC X 95 (i_lda 0 54 la st M) := evC ((pm95 X 53).trans rfl) la st M
theorem e95_54 (X : aX) (la : aLs) (st : List aV) (M : aM) : go X 95 54 la st M = kC X 95 (i_get 5 4 57 la st M) := evC ((pm95 X 54).trans rfl) la st M
theorem e95_57 (X : aX) (la : aLs) (st : List aV) (M : aM) : go X 95 57 la st M = kC X 95 (i_ldi 1 58 la st M) := evC ((pm95 X 57).trans rfl) la st M
theorem e95_58 (X : aX) (la : aLs) (st : List aV) (M : aM) : go X 95 58 la st M = kC X 95 (i_aal 59 la st M) := evC ((pm95 X 58).trans rfl) la st M
theorem e95_59 (X : aX) (la : aLs) (st : List aV) (M : aM) : go X 95 59 la st M = kC X 95 (i_get 1 0 62 la st M) := evC ((pm95 X 59).trans rfl) la st M
theorem e95_62 (X : aX) (la : aLs) (st : List aV) (M : aM) : go X 95 62 la st M = kC X 95 (i_ldi 3 63 la st M) := evC ((pm95 X 62).trans rfl) la st M
theorem e95_63 (X : aX) (la : aLs) (st : List aV) (M : aM) : go X 95 63 la st M = kC X 95 (i_ial X 64 la st M) := evC ((pm95 X 63).trans rfl) la st M
theorem e95_64 (X : aX) (la : aLs) (st : List aV) (M : aM) : go X 95 64 la st M = kC X 95 (i_cme 71 67 la st M) := evC ((pm95 X 64).trans rfl) la st M
theorem e95_67 (X : aX) (la : aLs) (st : List aV) (M : aM) : go X 95 67 la st M = kC X 95 (i_ci (nI 1) 68 la st M) := evC ((pm95 X 67).trans rfl) la st M
theorem e95_68 (X : aX) (la : aLs) (st : List aV) (M : aM) : go X 95 68 la st M = kC X 95 (i_ldi 3 69 la st M) := evC ((pm95 X 68).trans rfl) la st M
theorem e95_69 (X : aX) (la : aLs) (st : List aV) (M : aM) : go X 95 69 la st M = kC X 95 (i_bin (fun x y => x + y) 70 la st M) := evC ((pm95 X 69).trans rfl) la st M
theorem e95_70 (X : aX) (la : aLs) (st : List aV) (M : aM) : go X 95 70 la st M = i_irt st M := evR ((pm95 X 70).trans rfl) la st M
theorem e95_71 (X : aX) (la : aLs) (st : List aV) (M : aM) : go X 95 71 la st M = kC X 95 (i_inc 3 (nI 1) 74 la st M) := evC ((pm95 X 71).trans rfl) la st M
theorem e95_74 (X : aX) (la : aLs) (st : List aV) (M : aM) : go X 95 74 la st M = kC X 95 (i_go 19 la st M) := evC ((pm95 X 74).trans rfl) la st M
theorem e95_77 (X : aX) (la : aLs) (st : List aV) (M : aM) : go X 95 77 la st M = kC X 95 (i_ci (nI 0) 78 la st M) := evC ((pm95 X 77).trans rfl) la st M
theorem e95_78 (X : aX) (la : aLs) (st : List aV) (M : aM) : go X 95 78 la st M = i_irt st M := evR ((pm95 X 78).trans rfl) la st M
theorem c95 (X : aX) (as : List aV) (M : aM) : cl X 95 as M = if cs as ≤ 4 then go X 95 0 (ent 4 as) [] M else none := rfl
theorem pm96 (X : aX) (pc : Nat) : pg X 96 pc = lk pc (tb96 X) := rfl
theorem e96_0 (X : aX) (la : aLs) (st : List aV) (M : aM) : go X 96 0 la st M = kC X 96 (i_lda 0 1 la st M) := evC ((pm96 X 0).trans rfl) la st M
theorem e96_1 (X : aX) (la : aLs) (st : List aV) (M : aM) : go X 96 1 la st M = kC X 96 (i_get 5 2 4 la st M) := evC ((pm96 X 1).trans rfl) la st M
theorem e96_4 (X : aX) (la : aLs) (st : List aV) (M : aM) : go X 96 4 la st M = kC X 96 (i_lda 0 5 la st M) := evC ((pm96 X 4).trans rfl) la st M
theorem e96_5 (X : aX) (la : aLs) (st : List aV) (M : aM) : go X 96 5 la st M = kC X 96 (i_get 5 0 8 la st M) := evC ((pm96 X 5).trans rfl) la st M
theorem e96_8 (X : aX) (la : aLs) (st : List aV) (M : aM) : go X 96 8 la st M = kK X 96 26 2 11 4 la st M := evK ((pm96 X 8).trans rfl) la st M
theorem e96_11 (X : aX) (la : aLs) (st : List aV) (M : aM) : go X 96 11 la st M = kC X 96 (i_lda 0 12 la st M) := evC ((pm96 X 11).trans rfl) la st M
theorem e96_12 (X : aX) (la : aLs) (st : List aV) (M : aM) : go X 96 12 la st M = kC X 96 (i_ci (nI 1) 13 la st M) := evC ((pm96 X 12).trans rfl) la st M
theorem e96_13 (X : aX) (la : aLs) (st : List aV) (M : aM) : go X 96 13 la st M = kC X 96 (i_put 5 6 1 16 la st M) := evC ((pm96 X 13).trans rfl) la st M
theorem e96_16 (X : aX) (la : aLs) (st : List aV) (M : aM) : go X 96 16 la st M = kC X 96 (i_ci (nI 1) 17 la st M) := evC ((pm96 X 16).trans rfl) la st M
theorem e96_17 (X : aX) (la : aLs) (st : List aV) (M : aM) : go X 96 17 la st M = i_irt st M := evR ((pm96 X 17).trans rfl) la st M
theorem c96 (X : aX) (as : List aV) (M : aM) : cl X 96 as M = if cs as ≤ 1 then go X 96 0 (ent 1 as) [] M else none := rfl
theorem pm97 (X : aX) (pc : Nat) : pg X 97 pc = lk pc (tb97 X) := rfl
theorem e97_0 (X : aX) (la : aLs) (st : List aV) (M : aM) : go X 97 0 la st M = kC X 97 (i_lda 0 1 la st M) := evC ((pm97 X 0).trans rfl) la st M
theorem e97_1 (X : aX) (la : aLs) (st : List aV) (M : aM) : go X 97 1 la st M = kC X 97 (i_get 5 6 4 la st M) := evC ((pm97 X 1).trans rfl) la st M
theorem e97_4 (X : aX) (la : aLs) (st : List aV) (M : aM) : go X 97 4 la st M = kC X 97 (i_ife 7 13 la st M) := evC ((pm97 X 4).trans rfl) la st M
theorem e97_7 (X : aX) (la : aLs) (st : List aV) (M : aM) : go X 97 7 la st M = kC X 97 (i_lda 0 8 la st M) := evC ((pm97 X 7).trans rfl) la st M
theorem e97_8 (X : aX) (la : aLs) (st : List aV) (M : aM) : go X 97 8 la st M = kC X 97 (i_ci (nI 3) 9 la st M) := evC ((pm97 X 8).trans rfl) la st M
theorem e97_9 (X : aX) (la : aLs) (st : List aV) (M : aM) : go X 97 9 la st M = kK X 97 101 2 12 6 la st M := evK ((pm97 X 9).trans rfl) la st M
theorem e97_12 (X : aX) (la : aLs) (st : List aV) (M : aM) : go X 97 12 la st M = i_irt st M := evR ((pm97 X 12).trans rfl) la st M
theorem e97_13 (X : aX) (la : aLs) (st : List aV) (M : aM) : go X 97 13 la st M = kC X 97 (i_lda 0 14 la st M) := evC ((pm97 X 13).trans rfl) la st M
theorem e97_14 (X : aX) (la : aLs) (st : List aV) (M : aM) : go X 97 14 la st M = kC X 97 (i_get 5 0 17 la st M) := evC ((pm97 X 14).trans rfl) la st M
theorem e97_17 (X : aX) (la : aLs) (st : List aV) (M : aM) : go X 97 17 la st M = kC X 97 (i_lda 0 18 la st M) := evC ((pm97 X 17).trans rfl) la st M
theorem e97_18 (X : aX) (la : aLs) (st : List aV) (M : aM) : go X 97 18 la st M = kC X 97 (i_get 5 2 21 la st M) := evC ((pm97 X 18).trans rfl) la st M
theorem e97_21 (X : aX) (la : aLs) (st : List aV) (M : aM) : go X 97 21 la st M = kK X 97 26 2 24 4 la st M := evK ((pm97 X 21).trans rfl) la st M
theorem e97_24 (X : aX) (la : aLs) (st : List aV) (M : aM) : go X 97 24 la st M = kC X 97 (i_lda 0 25 la st M) := evC ((pm97 X 24).trans rfl) la st M
theorem e97_25 (X : aX) (la : aLs) (st : List aV) (M : aM) : go X 97 25 la st M = kC X 97 (i_get 5 0 28 la st M) := evC ((pm97 X 25).trans rfl) la st M
theorem e97_28 (X : aX) (la : aLs) (st : List aV) (M : aM) : go X 97 28 la st M = kC X 97 (i_get 3 3 31 la st M) := evC ((pm97 X 28).trans rfl) la st M
theorem e97_31 (X : aX) (la : aLs) (st : List aV) (M : aM) : go X 97 31 la st M = i_irt st M := evR ((pm97 X 31).trans rfl) la st M
theorem c97 (X : aX) (as : List aV) (M : aM) : cl X 97 as M = if cs as ≤ 1 then go X 97 0 (ent 1 as) [] M else none := rfl
theorem pm98 (X : aX) (pc : Nat) : pg X 98 pc = lk pc (tb98 X) := rfl
theorem e98_0 (X : aX) (la : aLs) (st : List aV) (M : aM) : go X 98 0 la st M = kC X 98 (i_lda 0 1 la st M) := evC ((pm98 X 0).trans rfl) la st M
theorem e98_1 (X : aX) (la : aLs) (st : List aV) (M : aM) : go X 98 1 la st M = kC X 98 (i_get 5 6 4 la st M) := evC ((pm98 X 1).trans rfl) la st M
theorem e98_4 (X : aX) (la : aLs) (st : List aV) (M : aM) : go X 98 4 la st M = kC X 98 (i_ife 11 7 la st M) := evC ((pm98 X 4).trans rfl) la st M
theorem e98_7 (X : aX) (la : aLs) (st : List aV) (M : aM) : go X 98 7 la st M = kC X 98 (i_ci (nI 1) 8 la st M) := evC ((pm98 X 7).trans rfl) la st M
theorem e98_8 (X : aX) (la : aLs) (st : List aV) (M : aM) : go X 98 8 la st M = kC X 98 (i_go 12 la st M) := evC ((pm98 X 8).trans rfl) la st M
theorem e98_11 (X : aX) (la : aLs) (st : List aV) (M : aM) : go X 98 11 la st M = kC X 98 (i_ci (nI 0) 12 la st M) := evC ((pm98 X 11).trans rfl) la st M
theorem e98_12 (X : aX) (la : aLs) (st : List aV) (M : aM) : go X 98 12 la st M = kC X 98 (i_sti 1 13 la st M) := evC ((pm98 X 12).trans rfl) la st M
theorem e98_13 (X : aX) (la : aLs) (st : List aV) (M : aM) : go X 98 13 la st M = kC X 98 (i_lda 0 14 la st M) := evC ((pm98 X 13).trans rfl) la st M
theorem e98_14 (X : aX) (la : aLs) (st : List aV) (M : aM) : go X 98 14 la st M = kC X 98 (i_ci (nI 0) 15 la st M) := evC ((pm98 X 14).trans rfl) la st M
theorem e98_15 (X : aX) (la : aLs) (st : List aV) (M : aM) : go X 98 15 la st M = kC X 98 (i_put 5 6 1 18 la st M) := evC ((pm98 X 15).trans rfl) la st M
theorem e98_18 (X : aX) (la : aLs) (st : List aV) (M : aM) : go X 98 18 la st M = kC X 98 (i_ldi 1 19 la st M) := evC ((pm98 X 18).trans rfl) la st M
theorem e98_19 (X : aX) (la : aLs) (st : List aV) (M : aM) : go X 98 19 la st M = i_irt st M := evR ((pm98 X 19).trans rfl) la st M
theorem c98 (X : aX) (as : List aV) (M : aM) : cl X 98 as M = if cs as ≤ 2 then go X 98 0 (ent 2 as) [] M else none := rfl
theorem pm99 (X : aX) (pc : Nat) : pg X 99 pc = lk pc (tb99 X) := rfl
theorem e99_0 (X : aX) (la : aLs) (st : List aV) (M : aM) : go X 99 0 la st M = kC X 99 (i_ldi 1 1 la st M) := evC ((pm99 X 0).trans rfl) la st M
theorem e99_1 (X : aX) (la : aLs) (st : List aV) (M : aM) : go X 99 1 la st M = kC X 99 (i_sw [(nI 0, 48), (nI 1, 56), (nI 2, 64), (nI 3, 74), (nI 4, 82), (nI 5, 93), (nI 6, 104), (nI 7, 112)] 120 la st M) := evC ((pm99 X 1).trans rfl) la st M
theorem e99_48 (X : aX) (la : aLs) (st : List aV) (M : aM) : go X 99 48 la st M = kC X 99 (i_lda 0 49 la st M) := evC ((pm99 X 48).trans rfl) la st M
theorem e99_49 (X : aX) (la : aLs) (st : List aV) (M : aM) : go X 99 49 la st M = kC X 99 (i_get 5 0 52 la st M) := evC ((pm99 X 49).trans rfl) la st M
theorem e99_52 (X : aX) (la : aLs) (st : List aV) (M : aM) : go X 99 52 la st M = kC X 99 (i_get 3 3 55 la st M) := evC ((pm99 X 52).trans rfl) la st M
theorem e99_55 (X : aX) (la : aLs) (st : List aV) (M : aM) : go X 99 55 la st M = i_irt st M := evR ((pm99 X 55).trans rfl) la st M
theorem e99_56 (X : aX) (la : aLs) (st : List aV) (M : aM) : go X 99 56 la st M = kC X 99 (i_lda 0 57 la st M) := evC ((pm99 X 56).trans rfl) la st M
theorem e99_57 (X : aX) (la : aLs) (st : List aV) (M : aM) : go X 99 57 la st M = kC X 99 (i_get 5 0 60 la st M) := evC ((pm99 X 57).trans rfl) la st M
theorem e99_60 (X : aX) (la : aLs) (st : List aV) (M : aM) : go X 99 60 la st M = kC X 99 (i_get 3 2 63 la st M) := evC ((pm99 X 60).trans rfl) la st M
theorem e99_63 (X : aX) (la : aLs) (st : List aV) (M : aM) : go X 99 63 la st M = i_irt st M := evR ((pm99 X 63).trans rfl) la st M
theorem e99_64 (X : aX) (la : aLs) (st : List aV) (M : aM) : go X 99 64 la st M = kC X 99 (i_lda 0 65 la st M) := evC ((pm99 X 64).trans rfl) la st M
theorem e99_65 (X : aX) (la : aLs) (st : List aV) (M : aM) : go X 99 65 la st M = kC X 99 (i_get 5 0 68 la st M) := evC ((pm99 X 65).trans rfl) la st M
theorem e99_68 (X : aX) (la : aLs) (st : List aV) (M : aM) : go X 99 68 la st M = kC X 99 (i_ci (nI 9) 70 la st M) := evC ((pm99 X 68).trans rfl) la st M
theorem e99_70 (X : aX) (la : aLs) (st : List aV) (M : aM) : go X 99 70 la st M = kK X 99 40 2 73 4 la st M := evK ((pm99 X 70).trans rfl) la st M
theorem e99_73 (X : aX) (la : aLs) (st : List aV) (M : aM) : go X 99 73 la st M = i_irt st M := evR ((pm99 X 73).trans rfl) la st M
theorem e99_74 (X : aX) (la : aLs) (st : List aV) (M : aM) : go X 99 74 la st M = kC X 99 (i_lda 0 75 la st M) := evC ((pm99 X 74).trans rfl) la st M
theorem e99_75 (X : aX) (la : aLs) (st : List aV) (M : aM) : go X 99 75 la st M = kC X 99 (i_get 5 0 78 la st M) := evC ((pm99 X 75).trans rfl) la st M
theorem e99_78 (X : aX) (la : aLs) (st : List aV) (M : aM) : go X 99 78 la st M = kC X 99 (i_get 3 4 81 la st M) := evC ((pm99 X 78).trans rfl) la st M
theorem e99_81 (X : aX) (la : aLs) (st : List aV) (M : aM) : go X 99 81 la st M = i_irt st M := evR ((pm99 X 81).trans rfl) la st M
theorem e99_82 (X : aX) (la : aLs) (st : List aV) (M : aM) : go X 99 82 la st M = kC X 99 (i_lda 0 83 la st M) := evC ((pm99 X 82).trans rfl) la st M
theorem e99_83 (X : aX) (la : aLs) (st : List aV) (M : aM) : go X 99 83 la st M = kC X 99 (i_get 5 0 86 la st M) := evC ((pm99 X 83).trans rfl) la st M
theorem e99_86 (X : aX) (la : aLs) (st : List aV) (M : aM) : go X 99 86 la st M = kK X 99 37 1 89 4 la st M := evK ((pm99 X 86).trans rfl) la st M
theorem e99_89 (X : aX) (la : aLs) (st : List aV) (M : aM) : go X 99 89 la st M = kK X 99 213 1 92 0 la st M := evK ((pm99 X 89).trans rfl) la st M
theorem e99_92 (X : aX) (la : aLs) (st : List aV) (M : aM) : go X 99 92 la st M = i_irt st M := evR ((pm99 X 92).trans rfl) la st M
theorem e99_93 (X : aX) (la : aLs) (st : List aV) (M : aM) : go X 99 93 la st M = kC X 99 (i_lda 0 94 la st M) := evC ((pm99 X 93).trans rfl) la st M
theorem e99_94 (X : aX) (la : aLs) (st : List aV) (M : aM) : go X 99 94 la st M = kC X 99 (i_get 5 3 97 la st M) := evC ((pm99 X 94).trans rfl) la st M
theorem e99_97 (X : aX) (la : aLs) (st : List aV) (M : aM) : go X 99 97 la st M = kC X 99 (i_get 0 0 100 la st M) := evC ((pm99 X 97).trans rfl) la st M
theorem e99_100 (X : aX) (la : aLs) (st : List aV) (M : aM) : go X 99 100 la st M = kC X 99 (i_get 4 1 103 la st M) := evC ((pm99 X 100).trans rfl) la st M
theorem e99_103 (X : aX) (la : aLs) (st : List aV) (M : aM) : go X 99 103 la st M = i_irt st M := evR ((pm99 X 103).trans rfl) la st M
theorem e99_104 (X : aX) (la : aLs) (st : List aV) (M : aM) : go X 99 104 la st M = kC X 99 (i_lda 0 105 la st M) := evC ((pm99 X 104).trans rfl) la st M
theorem e99_105 (X : aX) (la : aLs) (st : List aV) (M : aM) : go X 99 105 la st M = kC X 99 (i_get 5 0 108 la st M) := evC ((pm99 X 105).trans rfl) la st M
theorem e99_108 (X : aX) (la : aLs) (st : List aV) (M : aM) : go X 99 108 la st M = kC X 99 (i_get 3 5 111 la st M) := evC ((pm99 X 108).trans rfl) la st M
theorem e99_111 (X : aX) (la : aLs) (st : List aV) (M : aM) : go X 99 111 la st M = i_irt st M := evR ((pm99 X 111).trans rfl) la st M
theorem e99_112 (X : aX) (la : aLs) (st : List aV) (M : aM) : go X 99 112 la st M = kC X 99 (i_lda 0 113 la st M) := evC ((pm99 X 112).trans rfl) la st M
theorem e99_113 (X : aX) (la : aLs) (st : List aV) (M : aM) : go X 99 113 la st M = kC X 99 (i_get 5 0 116 la st M) := evC ((pm99 X 113).trans rfl) la st M
theorem e99_116 (X : aX) (la : aLs) (st : List aV) (M : aM) : go X 99 116 la st M = kK X 99 41 1 119 4 la st M := evK ((pm99 X 116).trans rfl) la st M
theorem e99_119 (X : aX) (la : aLs) (st : List aV) (M : aM) : go X 99 119 la st M = i_irt st M := evR ((pm99 X 119).trans rfl) la st M
theorem e99_120 (X : aX) (la : aLs) (st : List aV) (M : aM) : go X 99 120 la st M = kC X 99 (i_lda 0 121 la st M) := evC ((pm99 X 120).trans rfl) la st M
theorem e99_121 (X : aX) (la : aLs) (st : List aV) (M : aM) : go X 99 121 la st M = kC X 99 (i_ci (nI 0) 122 la st M) := evC ((pm99 X 121).trans rfl) la st M
theorem e99_122 (X : aX) (la : aLs) (st : List aV) (M : aM) : go X 99 122 la st M = kK X 99 101 2 125 6 la st M := evK ((pm99 X 122).trans rfl) la st M
theorem e99_125 (X : aX) (la : aLs) (st : List aV) (M : aM) : go X 99 125 la st M = i_irt st M := evR ((pm99 X 125).trans rfl) la st M
theorem c99 (X : aX) (as : List aV) (M : aM) : cl X 99 as M = if cs as ≤ 2 then go X 99 0 (ent 2 as) [] M else none := rfl
theorem pm100 (X : aX) (pc : Nat) : pg X 100 pc = lk pc (tb100 X) := rfl
theorem e100_0 (X : aX) (la : aLs) (st : List aV) (M : aM) : go X 100 0 la st M = kC X 100 (i_ldi 1 1 la st M) := evC ((pm100 X 0).trans rfl) la st M
theorem e100_1 (X : aX) (la : aLs) (st : List aV) (M : aM) : go X 100 1 la st M = kC X 100 (i_ci (-1) 2 la st M) := evC ((pm100 X 1).trans rfl) la st M
theorem e100_2 (X : aX) (la : aLs) (st : List aV) (M : aM) : go X 100 2 la st M = kC X 100 (i_ci (nI 6) 4 la st M) := evC ((pm100 X 2).trans rfl) la st M
theorem e100_4 (X : aX) (la : aLs) (st : List aV) (M : aM) : go X 100 4 la st M = kK X 100 102 3 7 0 la st M := evK ((pm100 X 4).trans rfl) la st M
theorem e100_7 (X : aX) (la : aLs) (st : List aV) (M : aM) : go X 100 7 la st M = kC X 100 (i_ife 10 16 la st M) := evC ((pm100 X 7).trans rfl) la st M
theorem e100_10 (X : aX) (la : aLs) (st : List aV) (M : aM) : go X 100 10 la st M = kC X 100 (i_lda 0 11 la st M) := evC ((pm100 X 10).trans rfl) la st M
theorem e100_11 (X : aX) (la : aLs) (st : List aV) (M : aM) : go X 100 11 la st M = kC X 100 (i_ci (nI 0) 12 la st M) := evC ((pm100 X 11).trans rfl) la st M
theorem e100_12 (X : aX) (la : aLs) (st : List aV) (M : aM) : go X 100 12 la st M = kK X 100 101 2 15 6 la st M := evK ((pm100 X 12).trans rfl) la st M
theorem e100_15 (X : aX) (la : aLs) (st : List aV) (M : aM) : go X 100 15 la st M = i_irt st M := evR ((pm100 X 15).trans rfl) la st M
theorem e100_16 (X : aX) (la : aLs) (st : List aV) (M : aM) : go X 100 16 la st M = kC X 100 (i_ldi 1 17 la st M) := evC ((pm100 X 16).trans rfl) la st M
theorem e100_17 (X : aX) (la : aLs) (st : List aV) (M : aM) : go X 100 17 la st M = kC X 100 (i_ifl 27 20 la st M) := evC ((pm100 X 17).trans rfl) la st M
theorem e100_20 (X : aX) (la : aLs) (st : List aV) (M : aM) : go X 100 20 la st M = kC X 100 (i_lda 0 21 la st M) := evC ((pm100 X 20).trans rfl) la st M
theorem e100_21 (X : aX) (la : aLs) (st : List aV) (M : aM) : go X 100 21 la st M = kC X 100 (i_get 5 5 24 la st M) := evC ((pm100 X 21).trans rfl) la st M
theorem e100_24 (X : aX) (la : aLs) (st : List aV) (M : aM) : go X 100 24 la st M = kC X 100 (i_ldi 1 25 la st M) := evC ((pm100 X 24).trans rfl) la st M
theorem e100_25 (X : aX) (la : aLs) (st : List aV) (M : aM) : go X 100 25 la st M = kC X 100 (i_ial X 26 la st M) := evC ((pm100 X 25).trans rfl) la st M
theorem e100_26 (X : aX) (la : aLs) (st : List aV) (M : aM) : go X 100 26 la st M = i_irt st M := evR ((pm100 X 26).trans rfl) la st M
theorem e100_27 (X : aX) (la : aLs) (st : List aV) (M : aM) : go X 100 27 la st M = kC X 100 (i_ci (nI 0) 28 la st M) := evC ((pm100 X 27).trans rfl) la st M
theorem e100_28 (X : aX) (la : aLs) (st : List aV) (M : aM) : go X 100 28 la st M = kC X 100 (i_sti 2 29 la st M) := evC ((pm100 X 28).trans rfl) la st M
theorem e100_29 (X : aX) (la : aLs) (st : List aV) (M : aM) : go X 100 29 la st M = kC X 100 (i_ci (nI 0) 30 la st M) := evC ((pm100 X 29).trans rfl) la st M
theorem e100_30 (X : aX) (la : aLs) (st : List aV) (M : aM) : go X 100 30 la st M = kC X 100 (i_sti 3 31 la st M) := evC ((pm100 X 30).trans rfl) la st M
theorem e100_31 (X : aX) (la : aLs) (st : List aV) (M : aM) : go X 100 31 la st M = kC X 100 (i_ldi 3 32 la st M) := evC ((pm100 X 31).trans rfl) la st M
theorem e100_32 (X : aX) (la : aLs) (st : List aV) (M : aM) : go X 100 32 la st M = kC X 100 (i_ci (nI 7) 34 la st M) := evC ((pm100 X 32).trans rfl) la st M
theorem e100_34 (X : aX) (la : aLs) (st : List aV) (M : aM) : go X 100 34 la st M = kC X 100 (i_cml 37 52 la st M) := evC ((pm100 X 34).trans rfl) la st M
theorem e100_37 (X : aX) (la : aLs) (st : List aV) (M : aM) : go X 100 37 la st M = kC X 100 (i_ldi 2 38 la st M) := evC ((pm100 X 37).trans rfl) la st M
theorem e100_38 (X : aX) (la : aLs) (st : List aV) (M : aM) : go X 100 38 la st M = kC X 100 (i_lda 0 39 la st M) := evC ((pm100 X 38).trans rfl) la st M
theorem e100_39 (X : aX) (la : aLs) (st : List aV) (M : aM) : go X 100 39 la st M = kC X 100 (i_get 5 5 42 la st M) := evC ((pm100 X 39).trans rfl) la st M
theorem e100_42 (X : aX) (la : aLs) (st : List aV) (M : aM) : go X 100 42 la st M = kC X 100 (i_ldi 3 43 la st M) := evC ((pm100 X 42).trans rfl) la st M
theorem e100_43 (X : aX) (la : aLs) (st : List aV) (M : aM) : go X 100 43 la st M = kC X 100 (i_ial X 44 la st M) := evC ((pm100 X 43).trans rfl) la st M
theorem e100_44 (X : aX) (la : aLs) (st : List aV) (M : aM) : go X 100 44 la st M = kC X 100 (i_bin (fun x y => x + y) 45 la st M) := evC ((pm100 X 44).trans rfl) la st M
theorem e100_45 (X : aX) (la : aLs) (st : List aV) (M : aM) : go X 100 45 la st M = kC X 100 (i_sti 2 46 la st M) := evC ((pm100 X 45).trans rfl) la st M
theorem e100_46 (X : aX) (la : aLs) (st : List aV) (M : aM) : go X 100 46 la st M = kC X 100 (i_inc 3 (nI 1) 49 la st M) := evC ((pm100 X 46).trans rfl) la st M
theorem e100_49 (X : aX) (la : aLs) (st : List aV) (M : aM) : go X 100 49 la st M = kC X 100 (i_go 31 la st M) := evC ((pm100 X 49).trans rfl) la st M
theorem e100_52 (X : aX) (la : aLs) (st : List aV) (M : aM) : go X 100 52 la st M = kC X 100 (i_ldi 2 53 la st M) := evC ((pm100 X 52).trans rfl) la st M
theorem e100_53 (X : aX) (la : aLs) (st : List aV) (M : aM) : go X 100 53 la st M = i_irt st M := evR ((pm100 X 53).trans rfl) la st M
theorem c100 (X : aX) (as : List aV) (M : aM) : cl X 100 as M = if cs as ≤ 4 then go X 100 0 (ent 4 as) [] M else none := rfl
theorem pm101 (X : aX) (pc : Nat) : pg X 101 pc = lk pc (tb101 X) := rfl
theorem e101_0 (X : aX) (la : aLs) (st : List aV) (M : aM) : go X 101 0 la st M = kC X 101 (i_lda 0 1 la st M) := evC ((pm101 X 0).trans rfl) la st M
theorem e101_1 (X : aX) (la : aLs) (st : List aV) (M : aM) : go X 101 1 la st M = kC X 101 (i_get 5 5 4 la st M) := evC ((pm101 X 1).trans rfl) la st M
theorem e101_4 (X : aX) (la : aLs) (st : List aV) (M : aM) : go X 101 4 la st M = kC X 101 (i_ldi 1 5 la st M) := evC ((pm101 X 4).trans rfl) la st M
theorem e101_5 (X : aX) (la : aLs) (st : List aV) (M : aM) : go X 101 5 la st M = kC X 101 (i_dp2 6 la st M) := evC ((pm101 X 5).trans rfl) la st M
theorem e101_6 (X : aX) (la : aLs) (st : List aV) (M : aM) : go X 101 6 la st M = kC X 101 (i_ial X 7 la st M) := evC ((pm101 X 6).trans rfl) la st M
theorem e101_7 (X : aX) (la : aLs) (st : List aV) (M : aM) : go X 101 7 la st M = kC X 101 (i_ci (nI 1) 8 la st M) := evC ((pm101 X 7).trans rfl) la st M
theorem e101_8 (X : aX) (la : aLs) (st : List aV) (M : aM) : go X 101 8 la st M = kC X 101 (i_bin (fun x y => x + y) 9 la st M) := evC ((pm101 X 8).trans rfl) la st M
theorem e101_9 (X : aX) (la : aLs) (st : List aV) (M : aM) : go X 101 9 la st M = kC X 101 (i_ias 10 la st M) := evC ((pm101 X 9).trans rfl) la st M
theorem e101_10 (X : aX) (la : aLs) (st : List aV) (M : aM) : go X 101 10 la st M = kC X 101 (i_ci (-1000001) 12 la st M) := evC ((pm101 X 10).trans rfl) la st M
theorem e101_12 (X : aX) (la : aLs) (st : List aV) (M : aM) : go X 101 12 la st M = kC X 101 (i_ldi 1 13 la st M) := evC ((pm101 X 12).trans rfl) la st M
theorem e101_13 (X : aX) (la : aLs) (st : List aV) (M : aM) : go X 101 13 la st M = kC X 101 (i_bin (fun x y => x - y) 14 la st M) := evC ((pm101 X 13).trans rfl) la st M
theorem e101_14 (X : aX) (la : aLs) (st : List aV) (M : aM) : go X 101 14 la st M = i_irt st M := evR ((pm101 X 14).trans rfl) la st M
theorem c101 (X : aX) (as : List aV) (M : aM) : cl X 101 as M = if cs as ≤ 2 then go X 101 0 (ent 2 as) [] M else none := rfl
theorem pm102 (X : aX) (pc : Nat) : pg X 102 pc = lk pc (tb102 X) := rfl
theorem e102_0 (X : aX) (la : aLs) (st : List aV) (M : aM) : go X 102 0 la st M = kC X 102 (i_ldi 0 1 la st M) := evC ((pm102 X 0).trans rfl) la st M
theorem e102_1 (X : aX) (la : aLs) (st : List aV) (M : aM) : go X 102 1 la st M = kC X 102 (i_ldi 1 2 la st M) := evC ((pm102 X 1).trans rfl) la st M
theorem e102_2 (X : aX) (la : aLs) (st : List aV) (M : aM) : go X 102 2 la st M = kC X 102 (i_cml 14 5 la st M) := evC ((pm102 X 2).trans rfl) la st M
theorem e102_5 (X : aX) (la : aLs) (st : List aV) (M : aM) : go X 102 5 la st M = kC X 102 (i_ldi 0 6 la st M) := evC ((pm102 X 5).trans rfl) la st M
theorem e102_6 (X : aX) (la : aLs) (st : List aV) (M : aM) : go X 102 6 la st M = kC X 102 (i_ldi 2 7 la st M) := evC ((pm102 X 6).trans rfl) la st M
theorem e102_7 (X : aX) (la : aLs) (st : List aV) (M : aM) : go X 102 7 la st M = kC X 102 (i_cmg 14 10 la st M) := evC ((pm102 X 7).trans rfl) la st M
theorem e102_10 (X : aX) (la : aLs) (st : List aV) (M : aM) : go X 102 10 la st M = kC X 102 (i_ci (nI 1) 11 la st M) := evC ((pm102 X 10).trans rfl) la st M
theorem e102_11 (X : aX) (la : aLs) (st : List aV) (M : aM) : go X 102 11 la st M = kC X 102 (i_go 15 la st M) := evC ((pm102 X 11).trans rfl) la st M
theorem e102_14 (X : aX) (la : aLs) (st : List aV) (M : aM) : go X 102 14 la st M = kC X 102 (i_ci (nI 0) 15 la st M) := evC ((pm102 X 14).trans rfl) la st M
theorem e102_15 (X : aX) (la : aLs) (st : List aV) (M : aM) : go X 102 15 la st M = i_zrt st M := evR ((pm102 X 15).trans rfl) la st M
theorem c102 (X : aX) (as : List aV) (M : aM) : cl X 102 as M = if cs as ≤ 3 then go X 102 0 (ent 3 as) [] M else none := rfl
theorem pm103 (X : aX) (pc : Nat) : pg X 103 pc = lk pc (tb103 X) := rfl
theorem e103_0 (X : aX) (la : aLs) (st : List aV) (M : aM) : go X 103 0 la st M = kC X 103 (i_ldi 0 1 la st M) := evC ((pm103 X 0).trans rfl) la st M
theorem e103_1 (X : aX) (la : aLs) (st : List aV) (M : aM) : go X 103 1 la st M = kC X 103 (i_ci (nI 3) 2 la st M) := evC ((pm103 X 1).trans rfl) la st M
theorem e103_2 (X : aX) (la : aLs) (st : List aV) (M : aM) : go X 103 2 la st M = kC X 103 (i_cme 21 5 la st M) := evC ((pm103 X 2).trans rfl) la st M
theorem e103_5 (X : aX) (la : aLs) (st : List aV) (M : aM) : go X 103 5 la st M = kC X 103 (i_ldi 0 6 la st M) := evC ((pm103 X 5).trans rfl) la st M
theorem e103_6 (X : aX) (la : aLs) (st : List aV) (M : aM) : go X 103 6 la st M = kC X 103 (i_ci (nI 4) 7 la st M) := evC ((pm103 X 6).trans rfl) la st M
theorem e103_7 (X : aX) (la : aLs) (st : List aV) (M : aM) : go X 103 7 la st M = kC X 103 (i_cme 21 10 la st M) := evC ((pm103 X 7).trans rfl) la st M
theorem e103_10 (X : aX) (la : aLs) (st : List aV) (M : aM) : go X 103 10 la st M = kC X 103 (i_ldi 0 11 la st M) := evC ((pm103 X 10).trans rfl) la st M
theorem e103_11 (X : aX) (la : aLs) (st : List aV) (M : aM) : go X 103 11 la st M = kC X 103 (i_ci (nI 7) 13 la st M) := evC ((pm103 X 11).trans rfl) la st M
theorem e103_13 (X : aX) (la : aLs) (st : List aV) (M : aM) : go X 103 13 la st M = kC X 103 (i_ci (nI 10) 15 la st M) := evC ((pm103 X 13).trans rfl) la st M
theorem e103_15 (X : aX) (la : aLs) (st : List aV) (M : aM) : go X 103 15 la st M = kK X 103 102 3 18 0 la st M := evK ((pm103 X 15).trans rfl) la st M
theorem e103_18 (X : aX) (la : aLs) (st : List aV) (M : aM) : go X 103 18 la st M = kC X 103 (i_ife 25 21 la st M) := evC ((pm103 X 18).trans rfl) la st M
theorem e103_21 (X : aX) (la : aLs) (st : List aV) (M : aM) : go X 103 21 la st M = kC X 103 (i_ci (nI 1) 22 la st M) := evC ((pm103 X 21).trans rfl) la st M
theorem e103_22 (X : aX) (la : aLs) (st : List aV) (M : aM) : go X 103 22 la st M = kC X 103 (i_go 26 la st M) := evC ((pm103 X 22).trans rfl) la st M
theorem e103_25 (X : aX) (la : aLs) (st : List aV) (M : aM) : go X 103 25 la st M = kC X 103 (i_ci (nI 0) 26 la st M) := evC ((pm103 X 25).trans rfl) la st M
theorem e103_26 (X : aX) (la : aLs) (st : List aV) (M : aM) : go X 103 26 la st M = i_zrt st M := evR ((pm103 X 26).trans rfl) la st M
theorem c103 (X : aX) (as : List aV) (M : aM) : cl X 103 as M = if cs as ≤ 1 then go X 103 0 (ent 1 as) [] M else none := rfl
theorem pm104 (X : aX) (pc : Nat) : pg X 104 pc = lk pc (tb104 X) := rfl
theorem e104_0 (X : aX) (la : aLs) (st : List aV) (M : aM) : go X 104 0 la st M = kC X 104 (i_lda 0 1 la st M) := evC ((pm104 X 0).trans rfl) la st M
theorem e104_1 (X : aX) (la : aLs) (st : List aV) (M : aM) : go X 104 1 la st M = kC X 104 (i_get 5 1 4 la st M) := evC ((pm104 X 1).trans rfl) la st M
theorem e104_4 (X : aX) (la : aLs) (st : List aV) (M : aM) : go X 104 4 la st M = kC X 104 (i_lda 0 5 la st M) := evC ((pm104 X 4).trans rfl) la st M
theorem e104_5 (X : aX) (la : aLs) (st : List aV) (M : aM) : go X 104 5 la st M = kC X 104 (i_get 5 0 8 la st M) := evC ((pm104 X 5).trans rfl) la st M
theorem e104_8 (X : aX) (la : aLs) (st : List aV) (M : aM) : go X 104 8 la st M = kK X 104 26 2 11 4 la st M := evK ((pm104 X 8).trans rfl) la st M
theorem e104_11 (X : aX) (la : aLs) (st : List aV) (M : aM) : go X 104 11 la st M = kC X 104 (i_ci (nI 0) 12 la st M) := evC ((pm104 X 11).trans rfl) la st M
theorem e104_12 (X : aX) (la : aLs) (st : List aV) (M : aM) : go X 104 12 la st M = kC X 104 (i_sti 2 13 la st M) := evC ((pm104 X 12).trans rfl) la st M
theorem e104_13 (X : aX) (la : aLs) (st : List aV) (M : aM) : go X 104 13 la st M = kC X 104 (i_ldi 2 14 la st M) := evC ((pm104 X 13).trans rfl) la st M
theorem e104_14 (X : aX) (la : aLs) (st : List aV) (M : aM) : go X 104 14 la st M = kC X 104 (i_ci (nI 400) 17 la st M) := evC ((pm104 X 14).trans rfl) la st M
theorem e104_17 (X : aX) (la : aLs) (st : List aV) (M : aM) : go X 104 17 la st M = kC X 104 (i_cmg 49 20 la st M) := evC ((pm104 X 17).trans rfl) la st M
theorem e104_20 (X : aX) (la : aLs) (st : List aV) (M : aM) : go X 104 20 la st M = kC X 104 (i_lda 0 21 la st M) := evC ((pm104 X 20).trans rfl) la st M
theorem e104_21 (X : aX) (la : aLs) (st : List aV) (M : aM) : go X 104 21 la st M = kC X 104 (i_get 5 1 24 la st M) := evC ((pm104 X 21).trans rfl) la st M
theorem e104_24 (X : aX) (la : aLs) (st : List aV) (M : aM) : go X 104 24 la st M = kK X 104 35 1 27 4 la st M := evK ((pm104 X 24).trans rfl) la st M
theorem e104_27 (X : aX) (la : aLs) (st : List aV) (M : aM) : go X 104 27 la st M = kC X 104 (i_ldi 1 28 la st M) := evC ((pm104 X 27).trans rfl) la st M
theorem e104_28 (X : aX) (la : aLs) (st : List aV) (M : aM) : go X 104 28 la st M = kC X 104 (i_bin (fun x y => x &&& y) 29 la st M) := evC ((pm104 X 28).trans rfl) la st M
theorem e104_29 (X : aX) (la : aLs) (st : List aV) (M : aM) : go X 104 29 la st M = kC X 104 (i_ldi 1 30 la st M) := evC ((pm104 X 29).trans rfl) la st M
theorem e104_30 (X : aX) (la : aLs) (st : List aV) (M : aM) : go X 104 30 la st M = kC X 104 (i_cme 33 35 la st M) := evC ((pm104 X 30).trans rfl) la st M
theorem e104_33 (X : aX) (la : aLs) (st : List aV) (M : aM) : go X 104 33 la st M = kC X 104 (i_ldi 2 34 la st M) := evC ((pm104 X 33).trans rfl) la st M
theorem e104_34 (X : aX) (la : aLs) (st : List aV) (M : aM) : go X 104 34 la st M = i_irt st M := evR ((pm104 X 34).trans rfl) la st M
theorem e104_35 (X : aX) (la : aLs) (st : List aV) (M : aM) : go X 104 35 la st M = kC X 104 (i_lda 0 36 la st M) := evC ((pm104 X 35).trans rfl) la st M
theorem e104_36 (X : aX) (la : aLs) (st : List aV) (M : aM) : go X 104 36 la st M = kC X 104 (i_get 5 1 39 la st M) := evC ((pm104 X 36).trans rfl) la st M
theorem e104_39 (X : aX) (la : aLs) (st : List aV) (M : aM) : go X 104 39 la st M = kC X 104 (i_ci (nI 1) 40 la st M) := evC ((pm104 X 39).trans rfl) la st M
theorem e104_40 (X : aX) (la : aLs) (st : List aV) (M : aM) : go X 104 40 la st M = kK X 104 46 2 43 4 la st M := evK ((pm104 X 40).trans rfl) la st M
theorem e104_43 (X : aX) (la : aLs) (st : List aV) (M : aM) : go X 104 43 la st M = kC X 104 (i_inc 2 (nI 1) 46 la st M) := evC ((pm104 X 43).trans rfl) la st M
theorem e104_46 (X : aX) (la : aLs) (st : List aV) (M : aM) : go X 104 46 la st M = kC X 104 (i_go 13 la st M) := evC ((pm104 X 46).trans rfl) la st M
theorem e104_49 (X : aX) (la : aLs) (st : List aV) (M : aM) : go X 104 49 la st M = kC X 104 (i_lda 0 50 la st M) := evC ((pm104 X 49).trans rfl) la st M
theorem e104_50 (X : aX) (la : aLs) (st : List aV) (M : aM) : go X 104 50 la st M = kC X 104 (i_ci (nI 3) 51 la st M) := evC ((pm104 X 50).trans rfl) la st M
theorem e104_51 (X : aX) (la : aLs) (st : List aV) (M : aM) : go X 104 51 la st M = kK X 104 101 2 54 6 la st M := evK ((pm104 X 51).trans rfl) la st M
theorem e104_54 (X : aX) (la : aLs) (st : List aV) (M : aM) : go X 104 54 la st M = i_irt st M := evR ((pm104 X 54).trans rfl) la st M
theorem c104 (X : aX) (as : List aV) (M : aM) : cl X 104 as M = if cs as ≤ 3 then go X 104 0 (ent 3 as) [] M else none := rfl
theorem pm105 (X : aX) (pc : Nat) : pg X 105 pc = lk pc (tb105 X) := rfl
theorem e105_0 (X : aX) (la : aLs) (st : List aV) (M : aM) : go X 105 0 la st M = kC X 105 (i_lda 0 1 la st M) := evC ((pm105 X 0).trans rfl) la st M
theorem e105_1 (X : aX) (la : aLs) (st : List aV) (M : aM) : go X 105 1 la st M = kC X 105 (i_get 5 1 4 la st M) := evC ((pm105 X 1).trans rfl) la st M
theorem e105_4 (X : aX) (la : aLs) (st : List aV) (M : aM) : go X 105 4 la st M = kC X 105 (i_lda 0 5 la st M) := evC ((pm105 X 4).trans rfl) la st M
theorem e105_5 (X : aX) (la : aLs) (st : List aV) (M : aM) : go X 105 5 la st M = kC X 105 (i_get 5 0 8 la st M) := evC ((pm105 X 5).trans rfl) la st M
theorem e105_8 (X : aX) (la : aLs) (st : List aV) (M : aM) : go X 105 8 la st M = kK X 105 26 2 11 4 la st M := evK ((pm105 X 8).trans rfl) la st M
theorem e105_11 (X : aX) (la : aLs) (st : List aV) (M : aM) : go X 105 11 la st M = kC X 105 (i_lda 0 12 la st M) := evC ((pm105 X 11).trans rfl) la st M
theorem e105_12 (X : aX) (la : aLs) (st : List aV) (M : aM) : go X 105 12 la st M = kC X 105 (i_get 5 1 15 la st M) := evC ((pm105 X 12).trans rfl) la st M
theorem e105_15 (X : aX) (la : aLs) (st : List aV) (M : aM) : go X 105 15 la st M = kC X 105 (i_ldi 1 16 la st M) := evC ((pm105 X 15).trans rfl) la st M
theorem e105_16 (X : aX) (la : aLs) (st : List aV) (M : aM) : go X 105 16 la st M = kC X 105 (i_ldi 2 17 la st M) := evC ((pm105 X 16).trans rfl) la st M
theorem e105_17 (X : aX) (la : aLs) (st : List aV) (M : aM) : go X 105 17 la st M = kC X 105 (i_ldi 3 18 la st M) := evC ((pm105 X 17).trans rfl) la st M
theorem e105_18 (X : aX) (la : aLs) (st : List aV) (M : aM) : go X 105 18 la st M = kK X 105 32 4 21 4 la st M := evK ((pm105 X 18).trans rfl) la st M
theorem e105_21 (X : aX) (la : aLs) (st : List aV) (M : aM) : go X 105 21 la st M = kC X 105 (i_lda 0 22 la st M) := evC ((pm105 X 21).trans rfl) la st M
theorem e105_22 (X : aX) (la : aLs) (st : List aV) (M : aM) : go X 105 22 la st M = kC X 105 (i_get 5 1 25 la st M) := evC ((pm105 X 22).trans rfl) la st M
theorem e105_25 (X : aX) (la : aLs) (st : List aV) (M : aM) : go X 105 25 la st M = kC X 105 (i_ldi 4 27 la st M) := evC ((pm105 X 25).trans rfl) la st M
theorem e105_27 (X : aX) (la : aLs) (st : List aV) (M : aM) : go X 105 27 la st M = kK X 105 46 2 30 4 la st M := evK ((pm105 X 27).trans rfl) la st M
theorem e105_30 (X : aX) (la : aLs) (st : List aV) (M : aM) : go X 105 30 la st M = i_vrt st M := evR ((pm105 X 30).trans rfl) la st M
theorem c105 (X : aX) (as : List aV) (M : aM) : cl X 105 as M = if cs as ≤ 5 then go X 105 0 (ent 5 as) [] M else none := rfl
theorem pm106 (X : aX) (pc : Nat) : pg X 106 pc = lk pc (tb106 X) := rfl
theorem e106_0 (X : aX) (la : aLs) (st : List aV) (M : aM) : go X 106 0 la st M = kC X 106 (i_lda 0 1 la st M) := evC ((pm106 X 0).trans rfl) la st M
theorem e106_1 (X : aX) (la : aLs) (st : List aV) (M : aM) : go X 106 1 la st M = kC X 106 (i_get 5 1 4 la st M) := evC ((pm106 X 1).trans rfl) la st M
theorem e106_4 (X : aX) (la : aLs) (st : List aV) (M : aM) : go X 106 4 la st M = kC X 106 (i_lda 0 5 la st M) := evC ((pm106 X 4).trans rfl) la st M
theorem e106_5 (X : aX) (la : aLs) (st : List aV) (M : aM) : go X 106 5 la st M = kC X 106 (i_get 5 0 8 la st M) := evC ((pm106 X 5).trans rfl) la st M
theorem e106_8 (X : aX) (la : aLs) (st : List aV) (M : aM) : go X 106 8 la st M = kK X 106 26 2 11 4 la st M := evK ((pm106 X 8).trans rfl) la st M
theorem e106_11 (X : aX) (la : aLs) (st : List aV) (M : aM) : go X 106 11 la st M = kC X 106 (i_lda 0 12 la st M) := evC ((pm106 X 11).trans rfl) la st M
theorem e106_12 (X : aX) (la : aLs) (st : List aV) (M : aM) : go X 106 12 la st M = kC X 106 (i_get 5 1 15 la st M) := evC ((pm106 X 12).trans rfl) la st M
theorem e106_15 (X : aX) (la : aLs) (st : List aV) (M : aM) : go X 106 15 la st M = kC X 106 (i_ldi 1 16 la st M) := evC ((pm106 X 15).trans rfl) la st M
theorem e106_16 (X : aX) (la : aLs) (st : List aV) (M : aM) : go X 106 16 la st M = kK X 106 34 2 19 4 la st M := evK ((pm106 X 16).trans rfl) la st M
theorem e106_19 (X : aX) (la : aLs) (st : List aV) (M : aM) : go X 106 19 la st M = kC X 106 (i_ci (nI 0) 20 la st M) := evC ((pm106 X 19).trans rfl) la st M
theorem e106_20 (X : aX) (la : aLs) (st : List aV) (M : aM) : go X 106 20 la st M = kC X 106 (i_sti 3 21 la st M) := evC ((pm106 X 20).trans rfl) la st M
theorem e106_21 (X : aX) (la : aLs) (st : List aV) (M : aM) : go X 106 21 la st M = kC X 106 (i_ldi 3 22 la st M) := evC ((pm106 X 21).trans rfl) la st M
theorem e106_22 (X : aX) (la : aLs) (st : List aV) (M : aM) : go X 106 22 la st M = kC X 106 (i_ldi 2 23 la st M) := evC ((pm106 X 22).trans rfl) la st M
theorem e106_23 (X : aX) (la : aLs) (st : List aV) (M : aM) : go X 106 23 la st M = kC X 106 (i_cml 26 52 la st M) := evC ((pm106 X 23).trans rfl) la st M
theorem e106_26 (X : aX) (la : aLs) (st : List aV) (M : aM) : go X 106 26 la st M = kC X 106 (i_lda 0 27 la st M) := evC ((pm106 X 26).trans rfl) la st M
theorem e106_27 (X : aX) (la : aLs) (st : List aV) (M : aM) : go X 106 27 la st M = kC X 106 (i_get 5 1 30 la st M) := evC ((pm106 X 27).trans rfl) la st M
theorem e106_30 (X : aX) (la : aLs) (st : List aV) (M : aM) : go X 106 30 la st M = kC X 106 (i_ci (nI 1) 31 la st M) := evC ((pm106 X 30).trans rfl) la st M
theorem e106_31 (X : aX) (la : aLs) (st : List aV) (M : aM) : go X 106 31 la st M = kK X 106 46 2 34 4 la st M := evK ((pm106 X 31).trans rfl) la st M
theorem e106_34 (X : aX) (la : aLs) (st : List aV) (M : aM) : go X 106 34 la st M = kC X 106 (i_lda 0 35 la st M) := evC ((pm106 X 34).trans rfl) la st M
theorem e106_35 (X : aX) (la : aLs) (st : List aV) (M : aM) : go X 106 35 la st M = kC X 106 (i_get 5 1 38 la st M) := evC ((pm106 X 35).trans rfl) la st M
theorem e106_38 (X : aX) (la : aLs) (st : List aV) (M : aM) : go X 106 38 la st M = kC X 106 (i_get 3 4 41 la st M) := evC ((pm106 X 38).trans rfl) la st M
theorem e106_41 (X : aX) (la : aLs) (st : List aV) (M : aM) : go X 106 41 la st M = kC X 106 (i_ife 44 46 la st M) := evC ((pm106 X 41).trans rfl) la st M
theorem e106_44 (X : aX) (la : aLs) (st : List aV) (M : aM) : go X 106 44 la st M = kC X 106 (i_ci (nI 0) 45 la st M) := evC ((pm106 X 44).trans rfl) la st M
theorem e106_45 (X : aX) (la : aLs) (st : List aV) (M : aM) : go X 106 45 la st M = i_zrt st M := evR ((pm106 X 45).trans rfl) la st M
theorem e106_46 (X : aX) (la : aLs) (st : List aV) (M : aM) : go X 106 46 la st M = kC X 106 (i_inc 3 (nI 1) 49 la st M) := evC ((pm106 X 46).trans rfl) la st M
theorem e106_49 (X : aX) (la : aLs) (st : List aV) (M : aM) : go X 106 49 la st M = kC X 106 (i_go 21 la st M) := evC ((pm106 X 49).trans rfl) la st M
theorem e106_52 (X : aX) (la : aLs) (st : List aV) (M : aM) : go X 106 52 la st M = kC X 106 (i_lda 0 53 la st M) := evC ((pm106 X 52).trans rfl) la st M
theorem e106_53 (X : aX) (la : aLs) (st : List aV) (M : aM) : go X 106 53 la st M = kC X 106 (i_get 5 1 56 la st M) := evC ((pm106 X 53).trans rfl) la st M
theorem e106_56 (X : aX) (la : aLs) (st : List aV) (M : aM) : go X 106 56 la st M = kC X 106 (i_get 3 4 59 la st M) := evC ((pm106 X 56).trans rfl) la st M
theorem e106_59 (X : aX) (la : aLs) (st : List aV) (M : aM) : go X 106 59 la st M = kC X 106 (i_ldi 2 60 la st M) := evC ((pm106 X 59).trans rfl) la st M
theorem e106_60 (X : aX) (la : aLs) (st : List aV) (M : aM) : go X 106 60 la st M = kC X 106 (i_cml 67 63 la st M) := evC ((pm106 X 60).trans rfl) la st M
theorem e106_63 (X : aX) (la : aLs) (st : List aV) (M : aM) : go X 106 63 la st M = kC X 106 (i_ci (nI 1) 64 la st M) := evC ((pm106 X 63).trans rfl) la st M
theorem e106_64 (X : aX) (la : aLs) (st : List aV) (M : aM) : go X 106 64 la st M = kC X 106 (i_go 68 la st M) := evC ((pm106 X 64).trans rfl) la st M
theorem e106_67 (X : aX) (la : aLs) (st : List aV) (M : aM) : go X 106 67 la st M = kC X 106 (i_ci (nI 0) 68 la st M) := evC ((pm106 X 67).trans rfl) la st M
theorem e106_68 (X : aX) (la : aLs) (st : List aV) (M : aM) : go X 106 68 la st M = i_zrt st M := evR ((pm106 X 68).trans rfl) la st M
theorem c106 (X : aX) (as : List aV) (M : aM) : cl X 106 as M = if cs as ≤ 4 then go X 106 0 (ent 4 as) [] M else none := rfl
theorem pm107 (X : aX) (pc : Nat) : pg X 107 pc = lk pc (tb107 X) := rfl
theorem e107_0 (X : aX) (la : aLs) (st : List aV) (M : aM) : go X 107 0 la st M = kC X 107 (i_lda 0 1 la st M) := evC ((pm107 X 0).trans rfl) la st M
theorem e107_1 (X : aX) (la : aLs) (st : List aV) (M : aM) : go X 107 1 la st M = kC X 107 (i_get 5 1 4 la st M) := evC ((pm107 X 1).trans rfl) la st M
theorem e107_4 (X : aX) (la : aLs) (st : List aV) (M : aM) : go X 107 4 la st M = kC X 107 (i_lda 0 5 la st M) := evC ((pm107 X 4).trans rfl) la st M
theorem e107_5 (X : aX) (la : aLs) (st : List aV) (M : aM) : go X 107 5 la st M = kC X 107 (i_get 5 0 8 la st M) := evC ((pm107 X 5).trans rfl) la st M
theorem e107_8 (X : aX) (la : aLs) (st : List aV) (M : aM) : go X 107 8 la st M = kK X 107 26 2 11 4 la st M := evK ((pm107 X 8).trans rfl) la st M
theorem e107_11 (X : aX) (la : aLs) (st : List aV) (M : aM) : go X 107 11 la st M = kC X 107 (i_lda 0 12 la st M) := evC ((pm107 X 11).trans rfl) la st M
theorem e107_12 (X : aX) (la : aLs) (st : List aV) (M : aM) : go X 107 12 la st M = kC X 107 (i_get 5 1 15 la st M) := evC ((pm107 X 12).trans rfl) la st M
theorem e107_15 (X : aX) (la : aLs) (st : List aV) (M : aM) : go X 107 15 la st M = kC X 107 (i_ldi 2 16 la st M) := evC ((pm107 X 15).trans rfl) la st M
theorem e107_16 (X : aX) (la : aLs) (st : List aV) (M : aM) : go X 107 16 la st M = kC X 107 (i_ldi 3 17 la st M) := evC ((pm107 X 16).trans rfl) la st M
theorem e107_17 (X : aX) (la : aLs) (st : List aV) (M : aM) : go X 107 17 la st M = kC X 107 (i_ldi 4 19 la st M) := evC ((pm107 X 17).trans rfl) la st M
theorem e107_19 (X : aX) (la : aLs) (st : List aV) (M : aM) : go X 107 19 la st M = kK X 107 32 4 22 4 la st M := evK ((pm107 X 19).trans rfl) la st M
theorem e107_22 (X : aX) (la : aLs) (st : List aV) (M : aM) : go X 107 22 la st M = kC X 107 (i_ci (nI 0) 23 la st M) := evC ((pm107 X 22).trans rfl) la st M
theorem e107_23 (X : aX) (la : aLs) (st : List aV) (M : aM) : go X 107 23 la st M = kC X 107 (i_sti 5 25 la st M) := evC ((pm107 X 23).trans rfl) la st M
theorem e107_25 (X : aX) (la : aLs) (st : List aV) (M : aM) : go X 107 25 la st M = kC X 107 (i_ldi 5 27 la st M) := evC ((pm107 X 25).trans rfl) la st M
theorem e107_27 (X : aX) (la : aLs) (st : List aV) (M : aM) : go X 107 27 la st M = kC X 107 (i_lda 1 28 la st M) := evC ((pm107 X 27).trans rfl) la st M
theorem e107_28 (X : aX) (la : aLs) (st : List aV) (M : aM) : go X 107 28 la st M = kC X 107 (i_get 1 2 31 la st M) := evC ((pm107 X 28).trans rfl) la st M
theorem e107_31 (X : aX) (la : aLs) (st : List aV) (M : aM) : go X 107 31 la st M = kC X 107 (i_cml 34 85 la st M) := evC ((pm107 X 31).trans rfl) la st M
theorem e107_34 (X : aX) (la : aLs) (st : List aV) (M : aM) : go X 107 34 la st M = kC X 107 (i_ldi 5 36 la st M) := evC ((pm107 X 34).trans rfl) la st M
theorem e107_36 (X : aX) (la : aLs) (st : List aV) (M : aM) : go X 107 36 la st M = kC X 107 (i_ifg 39 47 la st M) := evC ((pm107 X 36).trans rfl) la st M
theorem e107_39 (X : aX) (la : aLs) (st : List aV) (M : aM) : go X 107 39 la st M = kC X 107 (i_lda 0 40 la st M) := evC ((pm107 X 39).trans rfl) la st M
theorem e107_40 (X : aX) (la : aLs) (st : List aV) (M : aM) : go X 107 40 la st M = kC X 107 (i_get 5 1 43 la st M) := evC ((pm107 X 40).trans rfl) la st M
theorem e107_43 (X : aX) (la : aLs) (st : List aV) (M : aM) : go X 107 43 la st M = kC X 107 (i_ci (nI 1) 44 la st M) := evC ((pm107 X 43).trans rfl) la st M
theorem e107_44 (X : aX) (la : aLs) (st : List aV) (M : aM) : go X 107 44 la st M = kK X 107 46 2 47 4 la st M := evK ((pm107 X 44).trans rfl) la st M
theorem e107_47 (X : aX) (la : aLs) (st : List aV) (M : aM) : go X 107 47 la st M = kC X 107 (i_lda 1 48 la st M) := evC ((pm107 X 47).trans rfl) la st M
theorem e107_48 (X : aX) (la : aLs) (st : List aV) (M : aM) : go X 107 48 la st M = kC X 107 (i_get 1 0 51 la st M) := evC ((pm107 X 48).trans rfl) la st M
theorem e107_51 (X : aX) (la : aLs) (st : List aV) (M : aM) : go X 107 51 la st M = kC X 107 (i_ldi 5 53 la st M) := evC ((pm107 X 51).trans rfl) la st M
theorem e107_53 (X : aX) (la : aLs) (st : List aV) (M : aM) : go X 107 53 la st M = kC X 107 (i_ial X 54 la st M) := evC ((pm107 X 53).trans rfl) la st M
theorem e107_54 (X : aX) (la : aLs) (st : List aV) (M : aM) : go X 107 54 la st M = kC X 107 (i_sti 6 56 la st M) := evC ((pm107 X 54).trans rfl) la st M
theorem e107_56 (X : aX) (la : aLs) (st : List aV) (M : aM) : go X 107 56 la st M = kC X 107 (i_ldi 6 58 la st M) := evC ((pm107 X 56).trans rfl) la st M
theorem e107_58 (X : aX) (la : aLs) (st : List aV) (M : aM) : go X 107 58 la st M = kC X 107 (i_ci (-1) 59 la st M) := evC ((pm107 X 58).trans rfl) la st M
theorem e107_59 (X : aX) (la : aLs) (st : List aV) (M : aM) : go X 107 59 la st M = kC X 107 (i_cme 79 62 la st M) := evC ((pm107 X 59).trans rfl) la st M
theorem e107_62 (X : aX) (la : aLs) (st : List aV) (M : aM) : go X 107 62 la st M = kC X 107 (i_ldi 6 64 la st M) := evC ((pm107 X 62).trans rfl) la st M
theorem e107_64 (X : aX) (la : aLs) (st : List aV) (M : aM) : go X 107 64 la st M = kC X 107 (i_lda 0 65 la st M) := evC ((pm107 X 64).trans rfl) la st M
theorem e107_65 (X : aX) (la : aLs) (st : List aV) (M : aM) : go X 107 65 la st M = kC X 107 (i_get 5 1 68 la st M) := evC ((pm107 X 65).trans rfl) la st M
theorem e107_68 (X : aX) (la : aLs) (st : List aV) (M : aM) : go X 107 68 la st M = kC X 107 (i_ldi 2 69 la st M) := evC ((pm107 X 68).trans rfl) la st M
theorem e107_69 (X : aX) (la : aLs) (st : List aV) (M : aM) : go X 107 69 la st M = kC X 107 (i_ci (nI 7) 71 la st M) := evC ((pm107 X 69).trans rfl) la st M
theorem e107_71 (X : aX) (la : aLs) (st : List aV) (M : aM) : go X 107 71 la st M = kK X 107 30 3 74 4 la st M := evK ((pm107 X 71).trans rfl) la st M
theorem e107_74 (X : aX) (la : aLs) (st : List aV) (M : aM) : go X 107 74 la st M = kC X 107 (i_cme 79 77 la st M) := evC ((pm107 X 74).trans rfl) la st M
theorem e107_77 (X : aX) (la : aLs) (st : List aV) (M : aM) : go X 107 77 la st M = kC X 107 (i_ci (nI 0) 78 la st M) := evC ((pm107 X 77).trans rfl) la st M
theorem e107_78 (X : aX) (la : aLs) (st : List aV) (M : aM) : go X 107 78 la st M = i_zrt st M := evR ((pm107 X 78).trans rfl) la st M
theorem e107_79 (X : aX) (la : aLs) (st : List aV) (M : aM) : go X 107 79 la st M = kC X 107 (i_inc 5 (nI 1) 82 la st M) := evC ((pm107 X 79).trans rfl) la st M
theorem e107_82 (X : aX) (la : aLs) (st : List aV) (M : aM) : go X 107 82 la st M = kC X 107 (i_go 25 la st M) := evC ((pm107 X 82).trans rfl) la st M
theorem e107_85 (X : aX) (la : aLs) (st : List aV) (M : aM) : go X 107 85 la st M = kC X 107 (i_ci (nI 1) 86 la st M) := evC ((pm107 X 85).trans rfl) la st M
theorem e107_86 (X : aX) (la : aLs) (st : List aV) (M : aM) : go X 107 86 la st M = i_zrt st M := evR ((pm107 X 86).trans rfl) la st M
theorem c107 (X : aX) (as : List aV) (M : aM) : cl X 107 as M = if cs as ≤ 7 then go X 107 0 (ent 7 as) [] M else none := rfl
theorem pm108 (X : aX) (pc : Nat) : pg X 108 pc = lk pc (tb108 X) := rfl
theorem e108_0 (X : aX) (la : aLs) (st : List aV) (M : aM) : go X 108 0 la st M = kC X 108 (i_ldi 0 1 la st M) := evC ((pm108 X 0).trans rfl) la st M
theorem e108_1 (X : aX) (la : aLs) (st : List aV) (M : aM) : go X 108 1 la st M = kC X 108 (i_ci (nI 0) 2 la st M) := evC ((pm108 X 1).trans rfl) la st M
theorem e108_2 (X : aX) (la : aLs) (st : List aV) (M : aM) : go X 108 2 la st M = kC X 108 (i_ci (nI 3) 3 la st M) := evC ((pm108 X 2).trans rfl) la st M
theorem e108_3 (X : aX) (la : aLs) (st : List aV) (M : aM) : go X 108 3 la st M = kK X 108 102 3 6 0 la st M := evK ((pm108 X 3).trans rfl) la st M
theorem e108_6 (X : aX) (la : aLs) (st : List aV) (M : aM) : go X 108 6 la st M = i_zrt st M := evR ((pm108 X 6).trans rfl) la st M
theorem c108 (X : aX) (as : List aV) (M : aM) : cl X 108 as M = if cs as ≤ 1 then go X 108 0 (ent 1 as) [] M else none := rfl
theorem pm109 (X : aX) (pc : Nat) : pg X 109 pc = lk pc (tb109 X) := rfl
theorem e109_0 (X : aX) (la : aLs) (st : List aV) (M : aM) : go X 109 0 la st M = kC X 109 (i_ldi 1 1 la st M) := evC ((pm109 X 0).trans rfl) la st M
theorem e109_1 (X : aX) (la : aLs) (st : List aV) (M : aM) : go X 109 1 la st M = kK X 109 108 1 4 0 la st M := evK ((pm109 X 1).trans rfl) la st M
theorem e109_4 (X : aX) (la : aLs) (st : List aV) (M : aM) : go X 109 4 la st M = kC X 109 (i_ife 7 9 la st M) := evC ((pm109 X 4).trans rfl) la st M
theorem e109_7 (X : aX) (la : aLs) (st : List aV) (M : aM) : go X 109 7 la st M = kC X 109 (i_ci (nI 0) 8 la st M) := evC ((pm109 X 7).trans rfl) la st M
theorem e109_8 (X : aX) (la : aLs) (st : List aV) (M : aM) : go X 109 8 la st M = i_irt st M := evR ((pm109 X 8).trans rfl) la st M
theorem e109_9 (X : aX) (la : aLs) (st : List aV) (M : aM) : go X 109 9 la st M = kC X 109 (i_lda 0 10 la st M) := evC ((pm109 X 9).trans rfl) la st M
theorem e109_10 (X : aX) (la : aLs) (st : List aV) (M : aM) : go X 109 10 la st M = kC X 109 (i_get 5 4 13 la st M) := evC ((pm109 X 10).trans rfl) la st M
theorem e109_13 (X : aX) (la : aLs) (st : List aV) (M : aM) : go X 109 13 la st M = kC X 109 (i_ldi 1 14 la st M) := evC ((pm109 X 13).trans rfl) la st M
theorem e109_14 (X : aX) (la : aLs) (st : List aV) (M : aM) : go X 109 14 la st M = kC X 109 (i_aal 15 la st M) := evC ((pm109 X 14).trans rfl) la st M
theorem e109_15 (X : aX) (la : aLs) (st : List aV) (M : aM) : go X 109 15 la st M = kC X 109 (i_get 1 1 18 la st M) := evC ((pm109 X 15).trans rfl) la st M
theorem e109_18 (X : aX) (la : aLs) (st : List aV) (M : aM) : go X 109 18 la st M = kC X 109 (i_ife 21 25 la st M) := evC ((pm109 X 18).trans rfl) la st M
theorem e109_21 (X : aX) (la : aLs) (st : List aV) (M : aM) : go X 109 21 la st M = kC X 109 (i_ci (nI 5) 22 la st M) := evC ((pm109 X 21).trans rfl) la st M
theorem e109_22 (X : aX) (la : aLs) (st : List aV) (M : aM) : go X 109 22 la st M = kC X 109 (i_go 26 la st M) := evC ((pm109 X 22).trans rfl) la st M
theorem e109_25 (X : aX) (la : aLs) (st : List aV) (M : aM) : go X 109 25 la st M = kC X 109 (i_ci (-1) 26 la st M) := evC ((pm109 X 25).trans rfl) la st M
theorem e109_26 (X : aX) (la : aLs) (st : List aV) (M : aM) : go X 109 26 la st M = i_irt st M := evR ((pm109 X 26).trans rfl) la st M
theorem c109 (X : aX) (as : List aV) (M : aM) : cl X 109 as M = if cs as ≤ 2 then go X 109 0 (ent 2 as) [] M else none := rfl
