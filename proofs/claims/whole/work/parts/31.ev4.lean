theorem pm206 (X : aX) (pc : Nat) : pg X 206 pc = lk pc (tb206 X) := rfl
theorem e206_0 (X : aX) (la : aLs) (st : List aV) (M : aM) : go X 206 0 la st M = kC X 206 (i_lda 0 1 la st M) := evC ((pm206 X 0).trans rfl) la st M
theorem e206_1 (X : aX) (la : aLs) (st : List aV) (M : aM) : go X 206 1 la st M = kC X 206 (i_ldi 1 2 la st M) := evC ((pm206 X 1).trans rfl) la st M
theorem e206_2 (X : aX) (la : aLs) (st : List aV) (M : aM) : go X 206 2 la st M = kC X 206 (i_ci (nI 1) 3 la st M) := evC ((pm206 X 2).trans rfl) la st M
theorem e206_3 (X : aX) (la : aLs) (st : List aV) (M : aM) : go X 206 3 la st M = kK X 206 172 3 6 7 la st M := evK ((pm206 X 3).trans rfl) la st M
theorem e206_6 (X : aX) (la : aLs) (st : List aV) (M : aM) : go X 206 6 la st M = kC X 206 (i_ife 20 9 la st M) := evC ((pm206 X 6).trans rfl) la st M
theorem e206_9 (X : aX) (la : aLs) (st : List aV) (M : aM) : go X 206 9 la st M = kC X 206 (i_lda 0 10 la st M) := evC ((pm206 X 9).trans rfl) la st M
theorem e206_10 (X : aX) (la : aLs) (st : List aV) (M : aM) : go X 206 10 la st M = kC X 206 (i_lda 0 11 la st M) := evC ((pm206 X 10).trans rfl) la st M
theorem e206_11 (X : aX) (la : aLs) (st : List aV) (M : aM) : go X 206 11 la st M = kC X 206 (i_ldi 1 12 la st M) := evC ((pm206 X 11).trans rfl) la st M
theorem e206_12 (X : aX) (la : aLs) (st : List aV) (M : aM) : go X 206 12 la st M = kC X 206 (i_ci (nI 1) 13 la st M) := evC ((pm206 X 12).trans rfl) la st M
theorem e206_13 (X : aX) (la : aLs) (st : List aV) (M : aM) : go X 206 13 la st M = kK X 206 172 3 16 7 la st M := evK ((pm206 X 13).trans rfl) la st M
theorem e206_16 (X : aX) (la : aLs) (st : List aV) (M : aM) : go X 206 16 la st M = kK X 206 113 2 19 7 la st M := evK ((pm206 X 16).trans rfl) la st M
theorem e206_19 (X : aX) (la : aLs) (st : List aV) (M : aM) : go X 206 19 la st M = i_irt st M := evR ((pm206 X 19).trans rfl) la st M
theorem e206_20 (X : aX) (la : aLs) (st : List aV) (M : aM) : go X 206 20 la st M = kC X 206 (i_ci (nI 0) 21 la st M) := evC ((pm206 X 20).trans rfl) la st M
theorem e206_21 (X : aX) (la : aLs) (st : List aV) (M : aM) : go X 206 21 la st M = kC X 206 (i_sti 2 22 la st M) := evC ((pm206 X 21).trans rfl) la st M
theorem e206_22 (X : aX) (la : aLs) (st : List aV) (M : aM) : go X 206 22 la st M = kC X 206 (i_ldi 2 23 la st M) := evC ((pm206 X 22).trans rfl) la st M
theorem e206_23 (X : aX) (la : aLs) (st : List aV) (M : aM) : go X 206 23 la st M = kC X 206 (i_lda 0 24 la st M) := evC ((pm206 X 23).trans rfl) la st M
theorem e206_24 (X : aX) (la : aLs) (st : List aV) (M : aM) : go X 206 24 la st M = kC X 206 (i_get 6 19 27 la st M) := evC ((pm206 X 24).trans rfl) la st M
theorem e206_27 (X : aX) (la : aLs) (st : List aV) (M : aM) : go X 206 27 la st M = kC X 206 (i_ldi 1 28 la st M) := evC ((pm206 X 27).trans rfl) la st M
theorem e206_28 (X : aX) (la : aLs) (st : List aV) (M : aM) : go X 206 28 la st M = kC X 206 (i_ial X 29 la st M) := evC ((pm206 X 28).trans rfl) la st M
theorem e206_29 (X : aX) (la : aLs) (st : List aV) (M : aM) : go X 206 29 la st M = kC X 206 (i_cml 32 84 la st M) := evC ((pm206 X 29).trans rfl) la st M
theorem e206_32 (X : aX) (la : aLs) (st : List aV) (M : aM) : go X 206 32 la st M = kC X 206 (i_lda 0 33 la st M) := evC ((pm206 X 32).trans rfl) la st M
theorem e206_33 (X : aX) (la : aLs) (st : List aV) (M : aM) : go X 206 33 la st M = kC X 206 (i_ldi 2 34 la st M) := evC ((pm206 X 33).trans rfl) la st M
theorem e206_34 (X : aX) (la : aLs) (st : List aV) (M : aM) : go X 206 34 la st M = kK X 206 123 2 37 7 la st M := evK ((pm206 X 34).trans rfl) la st M
theorem e206_37 (X : aX) (la : aLs) (st : List aV) (M : aM) : go X 206 37 la st M = kC X 206 (i_ife 84 40 la st M) := evC ((pm206 X 37).trans rfl) la st M
theorem e206_40 (X : aX) (la : aLs) (st : List aV) (M : aM) : go X 206 40 la st M = kC X 206 (i_lda 0 41 la st M) := evC ((pm206 X 40).trans rfl) la st M
theorem e206_41 (X : aX) (la : aLs) (st : List aV) (M : aM) : go X 206 41 la st M = kC X 206 (i_get 6 20 44 la st M) := evC ((pm206 X 41).trans rfl) la st M
theorem e206_44 (X : aX) (la : aLs) (st : List aV) (M : aM) : go X 206 44 la st M = kC X 206 (i_ci (nI 40) 46 la st M) := evC ((pm206 X 44).trans rfl) la st M
theorem e206_46 (X : aX) (la : aLs) (st : List aV) (M : aM) : go X 206 46 la st M = kC X 206 (i_ldi 1 47 la st M) := evC ((pm206 X 46).trans rfl) la st M
theorem e206_47 (X : aX) (la : aLs) (st : List aV) (M : aM) : go X 206 47 la st M = kC X 206 (i_bin (fun x y => x * y) 48 la st M) := evC ((pm206 X 47).trans rfl) la st M
theorem e206_48 (X : aX) (la : aLs) (st : List aV) (M : aM) : go X 206 48 la st M = kC X 206 (i_ldi 2 49 la st M) := evC ((pm206 X 48).trans rfl) la st M
theorem e206_49 (X : aX) (la : aLs) (st : List aV) (M : aM) : go X 206 49 la st M = kC X 206 (i_bin (fun x y => x + y) 50 la st M) := evC ((pm206 X 49).trans rfl) la st M
theorem e206_50 (X : aX) (la : aLs) (st : List aV) (M : aM) : go X 206 50 la st M = kC X 206 (i_ial X 51 la st M) := evC ((pm206 X 50).trans rfl) la st M
theorem e206_51 (X : aX) (la : aLs) (st : List aV) (M : aM) : go X 206 51 la st M = kK X 206 120 1 54 0 la st M := evK ((pm206 X 51).trans rfl) la st M
theorem e206_54 (X : aX) (la : aLs) (st : List aV) (M : aM) : go X 206 54 la st M = kC X 206 (i_ife 84 57 la st M) := evC ((pm206 X 54).trans rfl) la st M
theorem e206_57 (X : aX) (la : aLs) (st : List aV) (M : aM) : go X 206 57 la st M = kC X 206 (i_lda 0 58 la st M) := evC ((pm206 X 57).trans rfl) la st M
theorem e206_58 (X : aX) (la : aLs) (st : List aV) (M : aM) : go X 206 58 la st M = kC X 206 (i_get 6 0 61 la st M) := evC ((pm206 X 58).trans rfl) la st M
theorem e206_61 (X : aX) (la : aLs) (st : List aV) (M : aM) : go X 206 61 la st M = kC X 206 (i_ldi 2 62 la st M) := evC ((pm206 X 61).trans rfl) la st M
theorem e206_62 (X : aX) (la : aLs) (st : List aV) (M : aM) : go X 206 62 la st M = kC X 206 (i_ci (nI 1) 63 la st M) := evC ((pm206 X 62).trans rfl) la st M
theorem e206_63 (X : aX) (la : aLs) (st : List aV) (M : aM) : go X 206 63 la st M = kK X 206 121 2 66 0 la st M := evK ((pm206 X 63).trans rfl) la st M
theorem e206_66 (X : aX) (la : aLs) (st : List aV) (M : aM) : go X 206 66 la st M = kC X 206 (i_lda 0 67 la st M) := evC ((pm206 X 66).trans rfl) la st M
theorem e206_67 (X : aX) (la : aLs) (st : List aV) (M : aM) : go X 206 67 la st M = kC X 206 (i_get 6 20 70 la st M) := evC ((pm206 X 67).trans rfl) la st M
theorem e206_70 (X : aX) (la : aLs) (st : List aV) (M : aM) : go X 206 70 la st M = kC X 206 (i_ci (nI 40) 72 la st M) := evC ((pm206 X 70).trans rfl) la st M
theorem e206_72 (X : aX) (la : aLs) (st : List aV) (M : aM) : go X 206 72 la st M = kC X 206 (i_ldi 1 73 la st M) := evC ((pm206 X 72).trans rfl) la st M
theorem e206_73 (X : aX) (la : aLs) (st : List aV) (M : aM) : go X 206 73 la st M = kC X 206 (i_bin (fun x y => x * y) 74 la st M) := evC ((pm206 X 73).trans rfl) la st M
theorem e206_74 (X : aX) (la : aLs) (st : List aV) (M : aM) : go X 206 74 la st M = kC X 206 (i_ldi 2 75 la st M) := evC ((pm206 X 74).trans rfl) la st M
theorem e206_75 (X : aX) (la : aLs) (st : List aV) (M : aM) : go X 206 75 la st M = kC X 206 (i_bin (fun x y => x + y) 76 la st M) := evC ((pm206 X 75).trans rfl) la st M
theorem e206_76 (X : aX) (la : aLs) (st : List aV) (M : aM) : go X 206 76 la st M = kC X 206 (i_ial X 77 la st M) := evC ((pm206 X 76).trans rfl) la st M
theorem e206_77 (X : aX) (la : aLs) (st : List aV) (M : aM) : go X 206 77 la st M = kC X 206 (i_ias 78 la st M) := evC ((pm206 X 77).trans rfl) la st M
theorem e206_78 (X : aX) (la : aLs) (st : List aV) (M : aM) : go X 206 78 la st M = kC X 206 (i_inc 2 (nI 1) 81 la st M) := evC ((pm206 X 78).trans rfl) la st M
theorem e206_81 (X : aX) (la : aLs) (st : List aV) (M : aM) : go X 206 81 la st M = kC X 206 (i_go 22 la st M) := evC ((pm206 X 81).trans rfl) la st M
theorem e206_84 (X : aX) (la : aLs) (st : List aV) (M : aM) : go X 206 84 la st M = kC X 206 (i_ldi 2 85 la st M) := evC ((pm206 X 84).trans rfl) la st M
theorem e206_85 (X : aX) (la : aLs) (st : List aV) (M : aM) : go X 206 85 la st M = i_irt st M := evR ((pm206 X 85).trans rfl) la st M
theorem c206 (X : aX) (as : List aV) (M : aM) : cl X 206 as M = if cs as ≤ 3 then go X 206 0 (ent 3 as) [] M else none := rfl
theorem pm207 (X : aX) (pc : Nat) : pg X 207 pc = lk pc (tb207 X) := rfl
theorem e207_0 (X : aX) (la : aLs) (st : List aV) (M : aM) : go X 207 0 la st M = kC X 207 (i_lda 0 1 la st M) := evC ((pm207 X 0).trans rfl) la st M
theorem e207_1 (X : aX) (la : aLs) (st : List aV) (M : aM) : go X 207 1 la st M = kC X 207 (i_ldi 1 2 la st M) := evC ((pm207 X 1).trans rfl) la st M
theorem e207_2 (X : aX) (la : aLs) (st : List aV) (M : aM) : go X 207 2 la st M = kC X 207 (i_ci (nI 1) 3 la st M) := evC ((pm207 X 2).trans rfl) la st M
theorem e207_3 (X : aX) (la : aLs) (st : List aV) (M : aM) : go X 207 3 la st M = kK X 207 172 3 6 7 la st M := evK ((pm207 X 3).trans rfl) la st M
theorem e207_6 (X : aX) (la : aLs) (st : List aV) (M : aM) : go X 207 6 la st M = kC X 207 (i_ife 20 9 la st M) := evC ((pm207 X 6).trans rfl) la st M
theorem e207_9 (X : aX) (la : aLs) (st : List aV) (M : aM) : go X 207 9 la st M = kC X 207 (i_lda 0 10 la st M) := evC ((pm207 X 9).trans rfl) la st M
theorem e207_10 (X : aX) (la : aLs) (st : List aV) (M : aM) : go X 207 10 la st M = kC X 207 (i_lda 0 11 la st M) := evC ((pm207 X 10).trans rfl) la st M
theorem e207_11 (X : aX) (la : aLs) (st : List aV) (M : aM) : go X 207 11 la st M = kC X 207 (i_ldi 1 12 la st M) := evC ((pm207 X 11).trans rfl) la st M
theorem e207_12 (X : aX) (la : aLs) (st : List aV) (M : aM) : go X 207 12 la st M = kC X 207 (i_ci (nI 1) 13 la st M) := evC ((pm207 X 12).trans rfl) la st M
theorem e207_13 (X : aX) (la : aLs) (st : List aV) (M : aM) : go X 207 13 la st M = kK X 207 172 3 16 7 la st M := evK ((pm207 X 13).trans rfl) la st M
theorem e207_16 (X : aX) (la : aLs) (st : List aV) (M : aM) : go X 207 16 la st M = kK X 207 113 2 19 7 la st M := evK ((pm207 X 16).trans rfl) la st M
theorem e207_19 (X : aX) (la : aLs) (st : List aV) (M : aM) : go X 207 19 la st M = i_irt st M := evR ((pm207 X 19).trans rfl) la st M
theorem e207_20 (X : aX) (la : aLs) (st : List aV) (M : aM) : go X 207 20 la st M = kC X 207 (i_ci (nI 0) 21 la st M) := evC ((pm207 X 20).trans rfl) la st M
theorem e207_21 (X : aX) (la : aLs) (st : List aV) (M : aM) : go X 207 21 la st M = kC X 207 (i_sti 2 22 la st M) := evC ((pm207 X 21).trans rfl) la st M
theorem e207_22 (X : aX) (la : aLs) (st : List aV) (M : aM) : go X 207 22 la st M = kC X 207 (i_ldi 2 23 la st M) := evC ((pm207 X 22).trans rfl) la st M
theorem e207_23 (X : aX) (la : aLs) (st : List aV) (M : aM) : go X 207 23 la st M = kC X 207 (i_lda 0 24 la st M) := evC ((pm207 X 23).trans rfl) la st M
theorem e207_24 (X : aX) (la : aLs) (st : List aV) (M : aM) : go X 207 24 la st M = kC X 207 (i_get 6 19 27 la st M) := evC ((pm207 X 24).trans rfl) la st M
theorem e207_27 (X : aX) (la : aLs) (st : List aV) (M : aM) : go X 207 27 la st M = kC X 207 (i_ldi 1 28 la st M) := evC ((pm207 X 27).trans rfl) la st M
theorem e207_28 (X : aX) (la : aLs) (st : List aV) (M : aM) : go X 207 28 la st M = kC X 207 (i_ial X 29 la st M) := evC ((pm207 X 28).trans rfl) la st M
theorem e207_29 (X : aX) (la : aLs) (st : List aV) (M : aM) : go X 207 29 la st M = kC X 207 (i_cml 32 67 la st M) := evC ((pm207 X 29).trans rfl) la st M
theorem e207_32 (X : aX) (la : aLs) (st : List aV) (M : aM) : go X 207 32 la st M = kC X 207 (i_lda 0 33 la st M) := evC ((pm207 X 32).trans rfl) la st M
theorem e207_33 (X : aX) (la : aLs) (st : List aV) (M : aM) : go X 207 33 la st M = kC X 207 (i_ldi 2 34 la st M) := evC ((pm207 X 33).trans rfl) la st M
theorem e207_34 (X : aX) (la : aLs) (st : List aV) (M : aM) : go X 207 34 la st M = kK X 207 123 2 37 7 la st M := evK ((pm207 X 34).trans rfl) la st M
theorem e207_37 (X : aX) (la : aLs) (st : List aV) (M : aM) : go X 207 37 la st M = kC X 207 (i_ife 67 40 la st M) := evC ((pm207 X 37).trans rfl) la st M
theorem e207_40 (X : aX) (la : aLs) (st : List aV) (M : aM) : go X 207 40 la st M = kC X 207 (i_lda 0 41 la st M) := evC ((pm207 X 40).trans rfl) la st M
theorem e207_41 (X : aX) (la : aLs) (st : List aV) (M : aM) : go X 207 41 la st M = kC X 207 (i_get 6 20 44 la st M) := evC ((pm207 X 41).trans rfl) la st M
theorem e207_44 (X : aX) (la : aLs) (st : List aV) (M : aM) : go X 207 44 la st M = kC X 207 (i_ci (nI 40) 46 la st M) := evC ((pm207 X 44).trans rfl) la st M
theorem e207_46 (X : aX) (la : aLs) (st : List aV) (M : aM) : go X 207 46 la st M = kC X 207 (i_ldi 1 47 la st M) := evC ((pm207 X 46).trans rfl) la st M
theorem e207_47 (X : aX) (la : aLs) (st : List aV) (M : aM) : go X 207 47 la st M = kC X 207 (i_bin (fun x y => x * y) 48 la st M) := evC ((pm207 X 47).trans rfl) la st M
theorem e207_48 (X : aX) (la : aLs) (st : List aV) (M : aM) : go X 207 48 la st M = kC X 207 (i_ldi 2 49 la st M) := evC ((pm207 X 48).trans rfl) la st M
theorem e207_49 (X : aX) (la : aLs) (st : List aV) (M : aM) : go X 207 49 la st M = kC X 207 (i_bin (fun x y => x + y) 50 la st M) := evC ((pm207 X 49).trans rfl) la st M
theorem e207_50 (X : aX) (la : aLs) (st : List aV) (M : aM) : go X 207 50 la st M = kC X 207 (i_ial X 51 la st M) := evC ((pm207 X 50).trans rfl) la st M
theorem e207_51 (X : aX) (la : aLs) (st : List aV) (M : aM) : go X 207 51 la st M = kC X 207 (i_lda 0 52 la st M) := evC ((pm207 X 51).trans rfl) la st M
theorem e207_52 (X : aX) (la : aLs) (st : List aV) (M : aM) : go X 207 52 la st M = kC X 207 (i_ldi 2 53 la st M) := evC ((pm207 X 52).trans rfl) la st M
theorem e207_53 (X : aX) (la : aLs) (st : List aV) (M : aM) : go X 207 53 la st M = kC X 207 (i_ci (nI 9) 55 la st M) := evC ((pm207 X 53).trans rfl) la st M
theorem e207_55 (X : aX) (la : aLs) (st : List aV) (M : aM) : go X 207 55 la st M = kK X 207 122 3 58 7 la st M := evK ((pm207 X 55).trans rfl) la st M
theorem e207_58 (X : aX) (la : aLs) (st : List aV) (M : aM) : go X 207 58 la st M = kC X 207 (i_cme 61 67 la st M) := evC ((pm207 X 58).trans rfl) la st M
theorem e207_61 (X : aX) (la : aLs) (st : List aV) (M : aM) : go X 207 61 la st M = kC X 207 (i_inc 2 (nI 1) 64 la st M) := evC ((pm207 X 61).trans rfl) la st M
theorem e207_64 (X : aX) (la : aLs) (st : List aV) (M : aM) : go X 207 64 la st M = kC X 207 (i_go 22 la st M) := evC ((pm207 X 64).trans rfl) la st M
theorem e207_67 (X : aX) (la : aLs) (st : List aV) (M : aM) : go X 207 67 la st M = kC X 207 (i_ldi 2 68 la st M) := evC ((pm207 X 67).trans rfl) la st M
theorem e207_68 (X : aX) (la : aLs) (st : List aV) (M : aM) : go X 207 68 la st M = kC X 207 (i_lda 0 69 la st M) := evC ((pm207 X 68).trans rfl) la st M
theorem e207_69 (X : aX) (la : aLs) (st : List aV) (M : aM) : go X 207 69 la st M = kC X 207 (i_get 6 19 72 la st M) := evC ((pm207 X 69).trans rfl) la st M
theorem e207_72 (X : aX) (la : aLs) (st : List aV) (M : aM) : go X 207 72 la st M = kC X 207 (i_ldi 1 73 la st M) := evC ((pm207 X 72).trans rfl) la st M
theorem e207_73 (X : aX) (la : aLs) (st : List aV) (M : aM) : go X 207 73 la st M = kC X 207 (i_ial X 74 la st M) := evC ((pm207 X 73).trans rfl) la st M
theorem e207_74 (X : aX) (la : aLs) (st : List aV) (M : aM) : go X 207 74 la st M = kC X 207 (i_cme 77 81 la st M) := evC ((pm207 X 74).trans rfl) la st M
theorem e207_77 (X : aX) (la : aLs) (st : List aV) (M : aM) : go X 207 77 la st M = kC X 207 (i_ci (nI 0) 78 la st M) := evC ((pm207 X 77).trans rfl) la st M
theorem e207_78 (X : aX) (la : aLs) (st : List aV) (M : aM) : go X 207 78 la st M = kC X 207 (i_go 84 la st M) := evC ((pm207 X 78).trans rfl) la st M
theorem e207_81 (X : aX) (la : aLs) (st : List aV) (M : aM) : go X 207 81 la st M = kC X 207 (i_ci (nI 1) 82 la st M) := evC ((pm207 X 81).trans rfl) la st M
theorem e207_82 (X : aX) (la : aLs) (st : List aV) (M : aM) : go X 207 82 la st M = kC X 207 (i_ldi 2 83 la st M) := evC ((pm207 X 82).trans rfl) la st M
theorem e207_83 (X : aX) (la : aLs) (st : List aV) (M : aM) : go X 207 83 la st M = kC X 207 (i_bin (fun x y => x + y) 84 la st M) := evC ((pm207 X 83).trans rfl) la st M
theorem e207_84 (X : aX) (la : aLs) (st : List aV) (M : aM) : go X 207 84 la st M = i_irt st M := evR ((pm207 X 84).trans rfl) la st M
theorem c207 (X : aX) (as : List aV) (M : aM) : cl X 207 as M = if cs as ≤ 3 then go X 207 0 (ent 3 as) [] M else none := rfl
theorem pm208 (X : aX) (pc : Nat) : pg X 208 pc = lk pc (tb208 X) := rfl
theorem e208_0 (X : aX) (la : aLs) (st : List aV) (M : aM) : go X 208 0 la st M = kC X 208 (i_lda 0 1 la st M) := evC ((pm208 X 0).trans rfl) la st M
theorem e208_1 (X : aX) (la : aLs) (st : List aV) (M : aM) : go X 208 1 la st M = kC X 208 (i_get 6 0 4 la st M) := evC ((pm208 X 1).trans rfl) la st M
theorem e208_4 (X : aX) (la : aLs) (st : List aV) (M : aM) : go X 208 4 la st M = kC X 208 (i_lda 0 5 la st M) := evC ((pm208 X 4).trans rfl) la st M
theorem e208_5 (X : aX) (la : aLs) (st : List aV) (M : aM) : go X 208 5 la st M = kC X 208 (i_get 6 1 8 la st M) := evC ((pm208 X 5).trans rfl) la st M
theorem e208_8 (X : aX) (la : aLs) (st : List aV) (M : aM) : go X 208 8 la st M = kK X 208 116 2 11 0 la st M := evK ((pm208 X 8).trans rfl) la st M
theorem e208_11 (X : aX) (la : aLs) (st : List aV) (M : aM) : go X 208 11 la st M = kC X 208 (i_lda 0 12 la st M) := evC ((pm208 X 11).trans rfl) la st M
theorem e208_12 (X : aX) (la : aLs) (st : List aV) (M : aM) : go X 208 12 la st M = kC X 208 (i_ci (nI 1) 13 la st M) := evC ((pm208 X 12).trans rfl) la st M
theorem e208_13 (X : aX) (la : aLs) (st : List aV) (M : aM) : go X 208 13 la st M = kC X 208 (i_put 6 3 1 16 la st M) := evC ((pm208 X 13).trans rfl) la st M
theorem e208_16 (X : aX) (la : aLs) (st : List aV) (M : aM) : go X 208 16 la st M = kC X 208 (i_ci (nI 1) 17 la st M) := evC ((pm208 X 16).trans rfl) la st M
theorem e208_17 (X : aX) (la : aLs) (st : List aV) (M : aM) : go X 208 17 la st M = i_irt st M := evR ((pm208 X 17).trans rfl) la st M
theorem c208 (X : aX) (as : List aV) (M : aM) : cl X 208 as M = if cs as ≤ 1 then go X 208 0 (ent 1 as) [] M else none := rfl
theorem pm209 (X : aX) (pc : Nat) : pg X 209 pc = lk pc (tb209 X) := rfl
theorem e209_0 (X : aX) (la : aLs) (st : List aV) (M : aM) : go X 209 0 la st M = kC X 209 (i_lda 0 1 la st M) := evC ((pm209 X 0).trans rfl) la st M
theorem e209_1 (X : aX) (la : aLs) (st : List aV) (M : aM) : go X 209 1 la st M = kC X 209 (i_get 6 3 4 la st M) := evC ((pm209 X 1).trans rfl) la st M
theorem e209_4 (X : aX) (la : aLs) (st : List aV) (M : aM) : go X 209 4 la st M = kC X 209 (i_ife 7 14 la st M) := evC ((pm209 X 4).trans rfl) la st M
theorem e209_7 (X : aX) (la : aLs) (st : List aV) (M : aM) : go X 209 7 la st M = kC X 209 (i_lda 0 8 la st M) := evC ((pm209 X 7).trans rfl) la st M
theorem e209_8 (X : aX) (la : aLs) (st : List aV) (M : aM) : go X 209 8 la st M = kC X 209 (i_ci (-1000004) 10 la st M) := evC ((pm209 X 8).trans rfl) la st M
theorem e209_10 (X : aX) (la : aLs) (st : List aV) (M : aM) : go X 209 10 la st M = kK X 209 113 2 13 7 la st M := evK ((pm209 X 10).trans rfl) la st M
theorem e209_13 (X : aX) (la : aLs) (st : List aV) (M : aM) : go X 209 13 la st M = i_irt st M := evR ((pm209 X 13).trans rfl) la st M
theorem e209_14 (X : aX) (la : aLs) (st : List aV) (M : aM) : go X 209 14 la st M = kC X 209 (i_lda 0 15 la st M) := evC ((pm209 X 14).trans rfl) la st M
theorem e209_15 (X : aX) (la : aLs) (st : List aV) (M : aM) : go X 209 15 la st M = kC X 209 (i_get 6 1 18 la st M) := evC ((pm209 X 15).trans rfl) la st M
theorem e209_18 (X : aX) (la : aLs) (st : List aV) (M : aM) : go X 209 18 la st M = kC X 209 (i_lda 0 19 la st M) := evC ((pm209 X 18).trans rfl) la st M
theorem e209_19 (X : aX) (la : aLs) (st : List aV) (M : aM) : go X 209 19 la st M = kC X 209 (i_get 6 0 22 la st M) := evC ((pm209 X 19).trans rfl) la st M
theorem e209_22 (X : aX) (la : aLs) (st : List aV) (M : aM) : go X 209 22 la st M = kK X 209 116 2 25 0 la st M := evK ((pm209 X 22).trans rfl) la st M
theorem e209_25 (X : aX) (la : aLs) (st : List aV) (M : aM) : go X 209 25 la st M = kC X 209 (i_lda 0 26 la st M) := evC ((pm209 X 25).trans rfl) la st M
theorem e209_26 (X : aX) (la : aLs) (st : List aV) (M : aM) : go X 209 26 la st M = kC X 209 (i_get 6 0 29 la st M) := evC ((pm209 X 26).trans rfl) la st M
theorem e209_29 (X : aX) (la : aLs) (st : List aV) (M : aM) : go X 209 29 la st M = kC X 209 (i_ci (nI 0) 30 la st M) := evC ((pm209 X 29).trans rfl) la st M
theorem e209_30 (X : aX) (la : aLs) (st : List aV) (M : aM) : go X 209 30 la st M = kC X 209 (i_ial X 31 la st M) := evC ((pm209 X 30).trans rfl) la st M
theorem e209_31 (X : aX) (la : aLs) (st : List aV) (M : aM) : go X 209 31 la st M = i_irt st M := evR ((pm209 X 31).trans rfl) la st M
theorem c209 (X : aX) (as : List aV) (M : aM) : cl X 209 as M = if cs as ≤ 1 then go X 209 0 (ent 1 as) [] M else none := rfl
theorem pm210 (X : aX) (pc : Nat) : pg X 210 pc = lk pc (tb210 X) := rfl
theorem e210_0 (X : aX) (la : aLs) (st : List aV) (M : aM) : go X 210 0 la st M = kC X 210 (i_lda 0 1 la st M) := evC ((pm210 X 0).trans rfl) la st M
theorem e210_1 (X : aX) (la : aLs) (st : List aV) (M : aM) : go X 210 1 la st M = kC X 210 (i_get 6 3 4 la st M) := evC ((pm210 X 1).trans rfl) la st M
theorem e210_4 (X : aX) (la : aLs) (st : List aV) (M : aM) : go X 210 4 la st M = kC X 210 (i_ife 11 7 la st M) := evC ((pm210 X 4).trans rfl) la st M
theorem e210_7 (X : aX) (la : aLs) (st : List aV) (M : aM) : go X 210 7 la st M = kC X 210 (i_ci (nI 1) 8 la st M) := evC ((pm210 X 7).trans rfl) la st M
theorem e210_8 (X : aX) (la : aLs) (st : List aV) (M : aM) : go X 210 8 la st M = kC X 210 (i_go 12 la st M) := evC ((pm210 X 8).trans rfl) la st M
theorem e210_11 (X : aX) (la : aLs) (st : List aV) (M : aM) : go X 210 11 la st M = kC X 210 (i_ci (nI 0) 12 la st M) := evC ((pm210 X 11).trans rfl) la st M
theorem e210_12 (X : aX) (la : aLs) (st : List aV) (M : aM) : go X 210 12 la st M = kC X 210 (i_sti 1 13 la st M) := evC ((pm210 X 12).trans rfl) la st M
theorem e210_13 (X : aX) (la : aLs) (st : List aV) (M : aM) : go X 210 13 la st M = kC X 210 (i_lda 0 14 la st M) := evC ((pm210 X 13).trans rfl) la st M
theorem e210_14 (X : aX) (la : aLs) (st : List aV) (M : aM) : go X 210 14 la st M = kC X 210 (i_ci (nI 0) 15 la st M) := evC ((pm210 X 14).trans rfl) la st M
theorem e210_15 (X : aX) (la : aLs) (st : List aV) (M : aM) : go X 210 15 la st M = kC X 210 (i_put 6 3 1 18 la st M) := evC ((pm210 X 15).trans rfl) la st M
theorem e210_18 (X : aX) (la : aLs) (st : List aV) (M : aM) : go X 210 18 la st M = kC X 210 (i_ldi 1 19 la st M) := evC ((pm210 X 18).trans rfl) la st M
theorem e210_19 (X : aX) (la : aLs) (st : List aV) (M : aM) : go X 210 19 la st M = i_irt st M := evR ((pm210 X 19).trans rfl) la st M
theorem c210 (X : aX) (as : List aV) (M : aM) : cl X 210 as M = if cs as ≤ 2 then go X 210 0 (ent 2 as) [] M else none := rfl
theorem pm211 (X : aX) (pc : Nat) : pg X 211 pc = lk pc (tb211 X) := rfl
theorem e211_0 (X : aX) (la : aLs) (st : List aV) (M : aM) : go X 211 0 la st M = kC X 211 (i_ci (nI 0) 1 la st M) := evC ((pm211 X 0).trans rfl) la st M
theorem e211_1 (X : aX) (la : aLs) (st : List aV) (M : aM) : go X 211 1 la st M = kC X 211 (i_sti 2 2 la st M) := evC ((pm211 X 1).trans rfl) la st M
theorem e211_2 (X : aX) (la : aLs) (st : List aV) (M : aM) : go X 211 2 la st M = kC X 211 (i_ldi 1 3 la st M) := evC ((pm211 X 2).trans rfl) la st M
theorem e211_3 (X : aX) (la : aLs) (st : List aV) (M : aM) : go X 211 3 la st M = kC X 211 (i_sw [(nI 0, 48), (nI 1, 55), (nI 2, 62), (nI 3, 69), (nI 4, 76), (nI 5, 83), (nI 6, 88), (nI 7, 95)] 130 la st M) := evC ((pm211 X 3).trans rfl) la st M
theorem e211_48 (X : aX) (la : aLs) (st : List aV) (M : aM) : go X 211 48 la st M = kC X 211 (i_lda 0 49 la st M) := evC ((pm211 X 48).trans rfl) la st M
theorem e211_49 (X : aX) (la : aLs) (st : List aV) (M : aM) : go X 211 49 la st M = kC X 211 (i_get 6 0 52 la st M) := evC ((pm211 X 49).trans rfl) la st M
theorem e211_52 (X : aX) (la : aLs) (st : List aV) (M : aM) : go X 211 52 la st M = kC X 211 (i_ci (nI 0) 53 la st M) := evC ((pm211 X 52).trans rfl) la st M
theorem e211_53 (X : aX) (la : aLs) (st : List aV) (M : aM) : go X 211 53 la st M = kC X 211 (i_ial X 54 la st M) := evC ((pm211 X 53).trans rfl) la st M
theorem e211_54 (X : aX) (la : aLs) (st : List aV) (M : aM) : go X 211 54 la st M = i_irt st M := evR ((pm211 X 54).trans rfl) la st M
theorem e211_55 (X : aX) (la : aLs) (st : List aV) (M : aM) : go X 211 55 la st M = kC X 211 (i_lda 0 56 la st M) := evC ((pm211 X 55).trans rfl) la st M
theorem e211_56 (X : aX) (la : aLs) (st : List aV) (M : aM) : go X 211 56 la st M = kC X 211 (i_get 6 0 59 la st M) := evC ((pm211 X 56).trans rfl) la st M
theorem e211_59 (X : aX) (la : aLs) (st : List aV) (M : aM) : go X 211 59 la st M = kC X 211 (i_ci (nI 1) 60 la st M) := evC ((pm211 X 59).trans rfl) la st M
theorem e211_60 (X : aX) (la : aLs) (st : List aV) (M : aM) : go X 211 60 la st M = kC X 211 (i_ial X 61 la st M) := evC ((pm211 X 60).trans rfl) la st M
theorem e211_61 (X : aX) (la : aLs) (st : List aV) (M : aM) : go X 211 61 la st M = i_irt st M := evR ((pm211 X 61).trans rfl) la st M
theorem e211_62 (X : aX) (la : aLs) (st : List aV) (M : aM) : go X 211 62 la st M = kC X 211 (i_lda 0 63 la st M) := evC ((pm211 X 62).trans rfl) la st M
theorem e211_63 (X : aX) (la : aLs) (st : List aV) (M : aM) : go X 211 63 la st M = kC X 211 (i_ci (nI 9) 65 la st M) := evC ((pm211 X 63).trans rfl) la st M
theorem e211_65 (X : aX) (la : aLs) (st : List aV) (M : aM) : go X 211 65 la st M = kK X 211 152 2 68 7 la st M := evK ((pm211 X 65).trans rfl) la st M
theorem e211_68 (X : aX) (la : aLs) (st : List aV) (M : aM) : go X 211 68 la st M = i_irt st M := evR ((pm211 X 68).trans rfl) la st M
theorem e211_69 (X : aX) (la : aLs) (st : List aV) (M : aM) : go X 211 69 la st M = kC X 211 (i_lda 0 70 la st M) := evC ((pm211 X 69).trans rfl) la st M
theorem e211_70 (X : aX) (la : aLs) (st : List aV) (M : aM) : go X 211 70 la st M = kC X 211 (i_get 6 0 73 la st M) := evC ((pm211 X 70).trans rfl) la st M
theorem e211_73 (X : aX) (la : aLs) (st : List aV) (M : aM) : go X 211 73 la st M = kC X 211 (i_ci (nI 3) 74 la st M) := evC ((pm211 X 73).trans rfl) la st M
theorem e211_74 (X : aX) (la : aLs) (st : List aV) (M : aM) : go X 211 74 la st M = kC X 211 (i_ial X 75 la st M) := evC ((pm211 X 74).trans rfl) la st M
theorem e211_75 (X : aX) (la : aLs) (st : List aV) (M : aM) : go X 211 75 la st M = i_irt st M := evR ((pm211 X 75).trans rfl) la st M
theorem e211_76 (X : aX) (la : aLs) (st : List aV) (M : aM) : go X 211 76 la st M = kC X 211 (i_lda 0 77 la st M) := evC ((pm211 X 76).trans rfl) la st M
theorem e211_77 (X : aX) (la : aLs) (st : List aV) (M : aM) : go X 211 77 la st M = kC X 211 (i_ci (nI 6) 79 la st M) := evC ((pm211 X 77).trans rfl) la st M
theorem e211_79 (X : aX) (la : aLs) (st : List aV) (M : aM) : go X 211 79 la st M = kK X 211 152 2 82 7 la st M := evK ((pm211 X 79).trans rfl) la st M
theorem e211_82 (X : aX) (la : aLs) (st : List aV) (M : aM) : go X 211 82 la st M = i_irt st M := evR ((pm211 X 82).trans rfl) la st M
theorem e211_83 (X : aX) (la : aLs) (st : List aV) (M : aM) : go X 211 83 la st M = kC X 211 (i_lda 0 84 la st M) := evC ((pm211 X 83).trans rfl) la st M
theorem e211_84 (X : aX) (la : aLs) (st : List aV) (M : aM) : go X 211 84 la st M = kC X 211 (i_get 6 8 87 la st M) := evC ((pm211 X 84).trans rfl) la st M
theorem e211_87 (X : aX) (la : aLs) (st : List aV) (M : aM) : go X 211 87 la st M = i_irt st M := evR ((pm211 X 87).trans rfl) la st M
theorem e211_88 (X : aX) (la : aLs) (st : List aV) (M : aM) : go X 211 88 la st M = kC X 211 (i_lda 0 89 la st M) := evC ((pm211 X 88).trans rfl) la st M
theorem e211_89 (X : aX) (la : aLs) (st : List aV) (M : aM) : go X 211 89 la st M = kC X 211 (i_get 6 0 92 la st M) := evC ((pm211 X 89).trans rfl) la st M
theorem e211_92 (X : aX) (la : aLs) (st : List aV) (M : aM) : go X 211 92 la st M = kC X 211 (i_ci (nI 2) 93 la st M) := evC ((pm211 X 92).trans rfl) la st M
theorem e211_93 (X : aX) (la : aLs) (st : List aV) (M : aM) : go X 211 93 la st M = kC X 211 (i_ial X 94 la st M) := evC ((pm211 X 93).trans rfl) la st M
theorem e211_94 (X : aX) (la : aLs) (st : List aV) (M : aM) : go X 211 94 la st M = i_irt st M := evR ((pm211 X 94).trans rfl) la st M
theorem e211_95 (X : aX) (la : aLs) (st : List aV) (M : aM) : go X 211 95 la st M = kC X 211 (i_ci (nI 0) 96 la st M) := evC ((pm211 X 95).trans rfl) la st M
theorem e211_96 (X : aX) (la : aLs) (st : List aV) (M : aM) : go X 211 96 la st M = kC X 211 (i_sti 3 97 la st M) := evC ((pm211 X 96).trans rfl) la st M
theorem e211_97 (X : aX) (la : aLs) (st : List aV) (M : aM) : go X 211 97 la st M = kC X 211 (i_ldi 3 98 la st M) := evC ((pm211 X 97).trans rfl) la st M
theorem e211_98 (X : aX) (la : aLs) (st : List aV) (M : aM) : go X 211 98 la st M = kC X 211 (i_ci (nI 10) 100 la st M) := evC ((pm211 X 98).trans rfl) la st M
theorem e211_100 (X : aX) (la : aLs) (st : List aV) (M : aM) : go X 211 100 la st M = kC X 211 (i_cml 103 128 la st M) := evC ((pm211 X 100).trans rfl) la st M
theorem e211_103 (X : aX) (la : aLs) (st : List aV) (M : aM) : go X 211 103 la st M = kC X 211 (i_ldi 2 104 la st M) := evC ((pm211 X 103).trans rfl) la st M
theorem e211_104 (X : aX) (la : aLs) (st : List aV) (M : aM) : go X 211 104 la st M = kC X 211 (i_lda 0 105 la st M) := evC ((pm211 X 104).trans rfl) la st M
theorem e211_105 (X : aX) (la : aLs) (st : List aV) (M : aM) : go X 211 105 la st M = kC X 211 (i_get 6 0 108 la st M) := evC ((pm211 X 105).trans rfl) la st M
theorem e211_108 (X : aX) (la : aLs) (st : List aV) (M : aM) : go X 211 108 la st M = kC X 211 (i_ci (nI 4) 109 la st M) := evC ((pm211 X 108).trans rfl) la st M
theorem e211_109 (X : aX) (la : aLs) (st : List aV) (M : aM) : go X 211 109 la st M = kC X 211 (i_ldi 3 110 la st M) := evC ((pm211 X 109).trans rfl) la st M
theorem e211_110 (X : aX) (la : aLs) (st : List aV) (M : aM) : go X 211 110 la st M = kC X 211 (i_bin (fun x y => x + y) 111 la st M) := evC ((pm211 X 110).trans rfl) la st M
theorem e211_111 (X : aX) (la : aLs) (st : List aV) (M : aM) : go X 211 111 la st M = kC X 211 (i_ial X 112 la st M) := evC ((pm211 X 111).trans rfl) la st M
theorem e211_112 (X : aX) (la : aLs) (st : List aV) (M : aM) : go X 211 112 la st M = kC X 211 (i_ifl 115 119 la st M) := evC ((pm211 X 112).trans rfl) la st M
theorem e211_115 (X : aX) (la : aLs) (st : List aV) (M : aM) : go X 211 115 la st M = kC X 211 (i_ci (nI 0) 116 la st M) := evC ((pm211 X 115).trans rfl) la st M
theorem e211_116 (X : aX) (la : aLs) (st : List aV) (M : aM) : go X 211 116 la st M = kC X 211 (i_go 120 la st M) := evC ((pm211 X 116).trans rfl) la st M
theorem e211_119 (X : aX) (la : aLs) (st : List aV) (M : aM) : go X 211 119 la st M = kC X 211 (i_ci (nI 1) 120 la st M) := evC ((pm211 X 119).trans rfl) la st M
theorem e211_120 (X : aX) (la : aLs) (st : List aV) (M : aM) : go X 211 120 la st M = kC X 211 (i_bin (fun x y => x + y) 121 la st M) := evC ((pm211 X 120).trans rfl) la st M
theorem e211_121 (X : aX) (la : aLs) (st : List aV) (M : aM) : go X 211 121 la st M = kC X 211 (i_sti 2 122 la st M) := evC ((pm211 X 121).trans rfl) la st M
theorem e211_122 (X : aX) (la : aLs) (st : List aV) (M : aM) : go X 211 122 la st M = kC X 211 (i_inc 3 (nI 1) 125 la st M) := evC ((pm211 X 122).trans rfl) la st M
theorem e211_125 (X : aX) (la : aLs) (st : List aV) (M : aM) : go X 211 125 la st M = kC X 211 (i_go 97 la st M) := evC ((pm211 X 125).trans rfl) la st M
theorem e211_128 (X : aX) (la : aLs) (st : List aV) (M : aM) : go X 211 128 la st M = kC X 211 (i_ldi 2 129 la st M) := evC ((pm211 X 128).trans rfl) la st M
theorem e211_129 (X : aX) (la : aLs) (st : List aV) (M : aM) : go X 211 129 la st M = i_irt st M := evR ((pm211 X 129).trans rfl) la st M
theorem e211_130 (X : aX) (la : aLs) (st : List aV) (M : aM) : go X 211 130 la st M = kC X 211 (i_lda 0 131 la st M) := evC ((pm211 X 130).trans rfl) la st M
theorem e211_131 (X : aX) (la : aLs) (st : List aV) (M : aM) : go X 211 131 la st M = kC X 211 (i_ci (-1000001) 133 la st M) := evC ((pm211 X 131).trans rfl) la st M
theorem e211_133 (X : aX) (la : aLs) (st : List aV) (M : aM) : go X 211 133 la st M = kK X 211 113 2 136 7 la st M := evK ((pm211 X 133).trans rfl) la st M
theorem e211_136 (X : aX) (la : aLs) (st : List aV) (M : aM) : go X 211 136 la st M = i_irt st M := evR ((pm211 X 136).trans rfl) la st M
theorem c211 (X : aX) (as : List aV) (M : aM) : cl X 211 as M = if cs as ≤ 4 then go X 211 0 (ent 4 as) [] M else none := rfl
theorem pm212 (X : aX) (pc : Nat) : pg X 212 pc = lk pc (tb212 X) := rfl
theorem e212_0 (X : aX) (la : aLs) (st : List aV) (M : aM) : go X 212 0 la st M = kC X 212 (i_ldi 1 1 la st M) := evC ((pm212 X 0).trans rfl) la st M
theorem e212_1 (X : aX) (la : aLs) (st : List aV) (M : aM) : go X 212 1 la st M = kC X 212 (i_ci (-1) 2 la st M) := evC ((pm212 X 1).trans rfl) la st M
theorem e212_2 (X : aX) (la : aLs) (st : List aV) (M : aM) : go X 212 2 la st M = kC X 212 (i_ci (nI 6) 4 la st M) := evC ((pm212 X 2).trans rfl) la st M
theorem e212_4 (X : aX) (la : aLs) (st : List aV) (M : aM) : go X 212 4 la st M = kK X 212 114 3 7 0 la st M := evK ((pm212 X 4).trans rfl) la st M
theorem e212_7 (X : aX) (la : aLs) (st : List aV) (M : aM) : go X 212 7 la st M = kC X 212 (i_ife 21 10 la st M) := evC ((pm212 X 7).trans rfl) la st M
theorem e212_10 (X : aX) (la : aLs) (st : List aV) (M : aM) : go X 212 10 la st M = kC X 212 (i_lda 0 11 la st M) := evC ((pm212 X 10).trans rfl) la st M
theorem e212_11 (X : aX) (la : aLs) (st : List aV) (M : aM) : go X 212 11 la st M = kC X 212 (i_get 6 4 14 la st M) := evC ((pm212 X 11).trans rfl) la st M
theorem e212_14 (X : aX) (la : aLs) (st : List aV) (M : aM) : go X 212 14 la st M = kC X 212 (i_ldi 1 15 la st M) := evC ((pm212 X 14).trans rfl) la st M
theorem e212_15 (X : aX) (la : aLs) (st : List aV) (M : aM) : go X 212 15 la st M = kC X 212 (i_ci (nI 1) 16 la st M) := evC ((pm212 X 15).trans rfl) la st M
theorem e212_16 (X : aX) (la : aLs) (st : List aV) (M : aM) : go X 212 16 la st M = kC X 212 (i_bin (fun x y => x + y) 17 la st M) := evC ((pm212 X 16).trans rfl) la st M
theorem e212_17 (X : aX) (la : aLs) (st : List aV) (M : aM) : go X 212 17 la st M = kC X 212 (i_ial X 18 la st M) := evC ((pm212 X 17).trans rfl) la st M
theorem e212_18 (X : aX) (la : aLs) (st : List aV) (M : aM) : go X 212 18 la st M = kC X 212 (i_go 27 la st M) := evC ((pm212 X 18).trans rfl) la st M
theorem e212_21 (X : aX) (la : aLs) (st : List aV) (M : aM) : go X 212 21 la st M = kC X 212 (i_lda 0 22 la st M) := evC ((pm212 X 21).trans rfl) la st M
theorem e212_22 (X : aX) (la : aLs) (st : List aV) (M : aM) : go X 212 22 la st M = kC X 212 (i_ci (-1000001) 24 la st M) := evC ((pm212 X 22).trans rfl) la st M
theorem e212_24 (X : aX) (la : aLs) (st : List aV) (M : aM) : go X 212 24 la st M = kK X 212 113 2 27 7 la st M := evK ((pm212 X 24).trans rfl) la st M
theorem e212_27 (X : aX) (la : aLs) (st : List aV) (M : aM) : go X 212 27 la st M = i_irt st M := evR ((pm212 X 27).trans rfl) la st M
theorem c212 (X : aX) (as : List aV) (M : aM) : cl X 212 as M = if cs as ≤ 2 then go X 212 0 (ent 2 as) [] M else none := rfl
theorem pm213 (X : aX) (pc : Nat) : pg X 213 pc = lk pc (tb213 X) := rfl
theorem e213_0 (X : aX) (la : aLs) (st : List aV) (M : aM) : go X 213 0 la st M = kC X 213 (i_ldi 0 1 la st M) := evC ((pm213 X 0).trans rfl) la st M
theorem e213_1 (X : aX) (la : aLs) (st : List aV) (M : aM) : go X 213 1 la st M = kC X 213 (i_ldi 0 2 la st M) := evC ((pm213 X 1).trans rfl) la st M
theorem e213_2 (X : aX) (la : aLs) (st : List aV) (M : aM) : go X 213 2 la st M = kC X 213 (i_ci (nI 1) 3 la st M) := evC ((pm213 X 2).trans rfl) la st M
theorem e213_3 (X : aX) (la : aLs) (st : List aV) (M : aM) : go X 213 3 la st M = kC X 213 (i_bin (fun x y => (x.toUInt32 >>> (y.toUInt32 &&& Int32.toUInt32 31)).toInt32) 4 la st M) := evC ((pm213 X 3).trans rfl) la st M
theorem e213_4 (X : aX) (la : aLs) (st : List aV) (M : aM) : go X 213 4 la st M = kC X 213 (i_ci (nI 1431655765) 7 la st M) := evC ((pm213 X 4).trans rfl) la st M
theorem e213_7 (X : aX) (la : aLs) (st : List aV) (M : aM) : go X 213 7 la st M = kC X 213 (i_bin (fun x y => x &&& y) 8 la st M) := evC ((pm213 X 7).trans rfl) la st M
theorem e213_8 (X : aX) (la : aLs) (st : List aV) (M : aM) : go X 213 8 la st M = kC X 213 (i_bin (fun x y => x - y) 9 la st M) := evC ((pm213 X 8).trans rfl) la st M
theorem e213_9 (X : aX) (la : aLs) (st : List aV) (M : aM) : go X 213 9 la st M = kC X 213 (i_sti 0 10 la st M) := evC ((pm213 X 9).trans rfl) la st M
theorem e213_10 (X : aX) (la : aLs) (st : List aV) (M : aM) : go X 213 10 la st M = kC X 213 (i_ldi 0 11 la st M) := evC ((pm213 X 10).trans rfl) la st M
theorem e213_11 (X : aX) (la : aLs) (st : List aV) (M : aM) : go X 213 11 la st M = kC X 213 (i_ci (nI 858993459) 14 la st M) := evC ((pm213 X 11).trans rfl) la st M
theorem e213_14 (X : aX) (la : aLs) (st : List aV) (M : aM) : go X 213 14 la st M = kC X 213 (i_bin (fun x y => x &&& y) 15 la st M) := evC ((pm213 X 14).trans rfl) la st M
theorem e213_15 (X : aX) (la : aLs) (st : List aV) (M : aM) : go X 213 15 la st M = kC X 213 (i_ldi 0 16 la st M) := evC ((pm213 X 15).trans rfl) la st M
theorem e213_16 (X : aX) (la : aLs) (st : List aV) (M : aM) : go X 213 16 la st M = kC X 213 (i_ci (nI 2) 17 la st M) := evC ((pm213 X 16).trans rfl) la st M
theorem e213_17 (X : aX) (la : aLs) (st : List aV) (M : aM) : go X 213 17 la st M = kC X 213 (i_bin (fun x y => (x.toUInt32 >>> (y.toUInt32 &&& Int32.toUInt32 31)).toInt32) 18 la st M) := evC ((pm213 X 17).trans rfl) la st M
theorem e213_18 (X : aX) (la : aLs) (st : List aV) (M : aM) : go X 213 18 la st M = kC X 213 (i_ci (nI 858993459) 21 la st M) := evC ((pm213 X 18).trans rfl) la st M
theorem e213_21 (X : aX) (la : aLs) (st : List aV) (M : aM) : go X 213 21 la st M = kC X 213 (i_bin (fun x y => x &&& y) 22 la st M) := evC ((pm213 X 21).trans rfl) la st M
theorem e213_22 (X : aX) (la : aLs) (st : List aV) (M : aM) : go X 213 22 la st M = kC X 213 (i_bin (fun x y => x + y) 23 la st M) := evC ((pm213 X 22).trans rfl) la st M
theorem e213_23 (X : aX) (la : aLs) (st : List aV) (M : aM) : go X 213 23 la st M = kC X 213 (i_sti 0 24 la st M) := evC ((pm213 X 23).trans rfl) la st M
theorem e213_24 (X : aX) (la : aLs) (st : List aV) (M : aM) : go X 213 24 la st M = kC X 213 (i_ldi 0 25 la st M) := evC ((pm213 X 24).trans rfl) la st M
theorem e213_25 (X : aX) (la : aLs) (st : List aV) (M : aM) : go X 213 25 la st M = kC X 213 (i_ldi 0 26 la st M) := evC ((pm213 X 25).trans rfl) la st M
theorem e213_26 (X : aX) (la : aLs) (st : List aV) (M : aM) : go X 213 26 la st M = kC X 213 (i_ci (nI 4) 27 la st M) := evC ((pm213 X 26).trans rfl) la st M
theorem e213_27 (X : aX) (la : aLs) (st : List aV) (M : aM) : go X 213 27 la st M = kC X 213 (i_bin (fun x y => (x.toUInt32 >>> (y.toUInt32 &&& Int32.toUInt32 31)).toInt32) 28 la st M) := evC ((pm213 X 27).trans rfl) la st M
theorem e213_28 (X : aX) (la : aLs) (st : List aV) (M : aM) : go X 213 28 la st M = kC X 213 (i_bin (fun x y => x + y) 29 la st M) := evC ((pm213 X 28).trans rfl) la st M
theorem e213_29 (X : aX) (la : aLs) (st : List aV) (M : aM) : go X 213 29 la st M = kC X 213 (i_ci (nI 252645135) 32 la st M) := evC ((pm213 X 29).trans rfl) la st M
theorem e213_32 (X : aX) (la : aLs) (st : List aV) (M : aM) : go X 213 32 la st M = kC X 213 (i_bin (fun x y => x &&& y) 33 la st M) := evC ((pm213 X 32).trans rfl) la st M
theorem e213_33 (X : aX) (la : aLs) (st : List aV) (M : aM) : go X 213 33 la st M = kC X 213 (i_sti 0 34 la st M) := evC ((pm213 X 33).trans rfl) la st M
theorem e213_34 (X : aX) (la : aLs) (st : List aV) (M : aM) : go X 213 34 la st M = kC X 213 (i_ldi 0 35 la st M) := evC ((pm213 X 34).trans rfl) la st M
theorem e213_35 (X : aX) (la : aLs) (st : List aV) (M : aM) : go X 213 35 la st M = kC X 213 (i_ldi 0 36 la st M) := evC ((pm213 X 35).trans rfl) la st M
theorem e213_36 (X : aX) (la : aLs) (st : List aV) (M : aM) : go X 213 36 la st M = kC X 213 (i_ci (nI 8) 38 la st M) := evC ((pm213 X 36).trans rfl) la st M
theorem e213_38 (X : aX) (la : aLs) (st : List aV) (M : aM) : go X 213 38 la st M = kC X 213 (i_bin (fun x y => (x.toUInt32 >>> (y.toUInt32 &&& Int32.toUInt32 31)).toInt32) 39 la st M) := evC ((pm213 X 38).trans rfl) la st M
theorem e213_39 (X : aX) (la : aLs) (st : List aV) (M : aM) : go X 213 39 la st M = kC X 213 (i_bin (fun x y => x + y) 40 la st M) := evC ((pm213 X 39).trans rfl) la st M
theorem e213_40 (X : aX) (la : aLs) (st : List aV) (M : aM) : go X 213 40 la st M = kC X 213 (i_sti 0 41 la st M) := evC ((pm213 X 40).trans rfl) la st M
theorem e213_41 (X : aX) (la : aLs) (st : List aV) (M : aM) : go X 213 41 la st M = kC X 213 (i_ldi 0 42 la st M) := evC ((pm213 X 41).trans rfl) la st M
theorem e213_42 (X : aX) (la : aLs) (st : List aV) (M : aM) : go X 213 42 la st M = kC X 213 (i_ldi 0 43 la st M) := evC ((pm213 X 42).trans rfl) la st M
theorem e213_43 (X : aX) (la : aLs) (st : List aV) (M : aM) : go X 213 43 la st M = kC X 213 (i_ci (nI 16) 45 la st M) := evC ((pm213 X 43).trans rfl) la st M
theorem e213_45 (X : aX) (la : aLs) (st : List aV) (M : aM) : go X 213 45 la st M = kC X 213 (i_bin (fun x y => (x.toUInt32 >>> (y.toUInt32 &&& Int32.toUInt32 31)).toInt32) 46 la st M) := evC ((pm213 X 45).trans rfl) la st M
theorem e213_46 (X : aX) (la : aLs) (st : List aV) (M : aM) : go X 213 46 la st M = kC X 213 (i_bin (fun x y => x + y) 47 la st M) := evC ((pm213 X 46).trans rfl) la st M
theorem e213_47 (X : aX) (la : aLs) (st : List aV) (M : aM) : go X 213 47 la st M = kC X 213 (i_sti 0 48 la st M) := evC ((pm213 X 47).trans rfl) la st M
theorem e213_48 (X : aX) (la : aLs) (st : List aV) (M : aM) : go X 213 48 la st M = kC X 213 (i_ldi 0 49 la st M) := evC ((pm213 X 48).trans rfl) la st M
theorem e213_49 (X : aX) (la : aLs) (st : List aV) (M : aM) : go X 213 49 la st M = kC X 213 (i_ci (nI 63) 51 la st M) := evC ((pm213 X 49).trans rfl) la st M
theorem e213_51 (X : aX) (la : aLs) (st : List aV) (M : aM) : go X 213 51 la st M = kC X 213 (i_bin (fun x y => x &&& y) 52 la st M) := evC ((pm213 X 51).trans rfl) la st M
theorem e213_52 (X : aX) (la : aLs) (st : List aV) (M : aM) : go X 213 52 la st M = i_irt st M := evR ((pm213 X 52).trans rfl) la st M
theorem c213 (X : aX) (as : List aV) (M : aM) : cl X 213 as M = if cs as ≤ 1 then go X 213 0 (ent 1 as) [] M else none := rfl
theorem pm214 (X : aX) (pc : Nat) : pg X 214 pc = lk pc (tb214 X) := rfl
theorem e214_0 (X : aX) (la : aLs) (st : List aV) (M : aM) : go X 214 0 la st M = kC X 214 (i_ldj 0 1 la st M) := evC ((pm214 X 0).trans rfl) la st M
theorem e214_1 (X : aX) (la : aLs) (st : List aV) (M : aM) : go X 214 1 la st M = kC X 214 (i_ldj 0 2 la st M) := evC ((pm214 X 1).trans rfl) la st M
theorem e214_2 (X : aX) (la : aLs) (st : List aV) (M : aM) : go X 214 2 la st M = kC X 214 (i_ci (nI 1) 3 la st M) := evC ((pm214 X 2).trans rfl) la st M
theorem e214_3 (X : aX) (la : aLs) (st : List aV) (M : aM) : go X 214 3 la st M = kC X 214 (i_shj (fun x y => (x.toUInt64 >>> (y.toInt64.toUInt64 &&& Int64.toUInt64 63)).toInt64) 4 la st M) := evC ((pm214 X 3).trans rfl) la st M
theorem e214_4 (X : aX) (la : aLs) (st : List aV) (M : aM) : go X 214 4 la st M = kC X 214 (i_cj 6148914691236517205 7 la st M) := evC ((pm214 X 4).trans rfl) la st M
theorem e214_7 (X : aX) (la : aLs) (st : List aV) (M : aM) : go X 214 7 la st M = kC X 214 (i_bnj (fun x y => x &&& y) 8 la st M) := evC ((pm214 X 7).trans rfl) la st M
theorem e214_8 (X : aX) (la : aLs) (st : List aV) (M : aM) : go X 214 8 la st M = kC X 214 (i_bnj (fun x y => x - y) 9 la st M) := evC ((pm214 X 8).trans rfl) la st M
theorem e214_9 (X : aX) (la : aLs) (st : List aV) (M : aM) : go X 214 9 la st M = kC X 214 (i_stj 0 10 la st M) := evC ((pm214 X 9).trans rfl) la st M
theorem e214_10 (X : aX) (la : aLs) (st : List aV) (M : aM) : go X 214 10 la st M = kC X 214 (i_ldj 0 11 la st M) := evC ((pm214 X 10).trans rfl) la st M
theorem e214_11 (X : aX) (la : aLs) (st : List aV) (M : aM) : go X 214 11 la st M = kC X 214 (i_cj 3689348814741910323 14 la st M) := evC ((pm214 X 11).trans rfl) la st M
theorem e214_14 (X : aX) (la : aLs) (st : List aV) (M : aM) : go X 214 14 la st M = kC X 214 (i_bnj (fun x y => x &&& y) 15 la st M) := evC ((pm214 X 14).trans rfl) la st M
theorem e214_15 (X : aX) (la : aLs) (st : List aV) (M : aM) : go X 214 15 la st M = kC X 214 (i_ldj 0 16 la st M) := evC ((pm214 X 15).trans rfl) la st M
theorem e214_16 (X : aX) (la : aLs) (st : List aV) (M : aM) : go X 214 16 la st M = kC X 214 (i_ci (nI 2) 17 la st M) := evC ((pm214 X 16).trans rfl) la st M
theorem e214_17 (X : aX) (la : aLs) (st : List aV) (M : aM) : go X 214 17 la st M = kC X 214 (i_shj (fun x y => (x.toUInt64 >>> (y.toInt64.toUInt64 &&& Int64.toUInt64 63)).toInt64) 18 la st M) := evC ((pm214 X 17).trans rfl) la st M
theorem e214_18 (X : aX) (la : aLs) (st : List aV) (M : aM) : go X 214 18 la st M = kC X 214 (i_cj 3689348814741910323 21 la st M) := evC ((pm214 X 18).trans rfl) la st M
theorem e214_21 (X : aX) (la : aLs) (st : List aV) (M : aM) : go X 214 21 la st M = kC X 214 (i_bnj (fun x y => x &&& y) 22 la st M) := evC ((pm214 X 21).trans rfl) la st M
theorem e214_22 (X : aX) (la : aLs) (st : List aV) (M : aM) : go X 214 22 la st M = kC X 214 (i_bnj (fun x y => x + y) 23 la st M) := evC ((pm214 X 22).trans rfl) la st M
theorem e214_23 (X : aX) (la : aLs) (st : List aV) (M : aM) : go X 214 23 la st M = kC X 214 (i_stj 0 24 la st M) := evC ((pm214 X 23).trans rfl) la st M
theorem e214_24 (X : aX) (la : aLs) (st : List aV) (M : aM) : go X 214 24 la st M = kC X 214 (i_ldj 0 25 la st M) := evC ((pm214 X 24).trans rfl) la st M
theorem e214_25 (X : aX) (la : aLs) (st : List aV) (M : aM) : go X 214 25 la st M = kC X 214 (i_ldj 0 26 la st M) := evC ((pm214 X 25).trans rfl) la st M
theorem e214_26 (X : aX) (la : aLs) (st : List aV) (M : aM) : go X 214 26 la st M = kC X 214 (i_ci (nI 4) 27 la st M) := evC ((pm214 X 26).trans rfl) la st M
theorem e214_27 (X : aX) (la : aLs) (st : List aV) (M : aM) : go X 214 27 la st M = kC X 214 (i_shj (fun x y => (x.toUInt64 >>> (y.toInt64.toUInt64 &&& Int64.toUInt64 63)).toInt64) 28 la st M) := evC ((pm214 X 27).trans rfl) la st M
theorem e214_28 (X : aX) (la : aLs) (st : List aV) (M : aM) : go X 214 28 la st M = kC X 214 (i_bnj (fun x y => x + y) 29 la st M) := evC ((pm214 X 28).trans rfl) la st M
theorem e214_29 (X : aX) (la : aLs) (st : List aV) (M : aM) : go X 214 29 la st M = kC X 214 (i_cj 1085102592571150095 32 la st M) := evC ((pm214 X 29).trans rfl) la st M
theorem e214_32 (X : aX) (la : aLs) (st : List aV) (M : aM) : go X 214 32 la st M = kC X 214 (i_bnj (fun x y => x &&& y) 33 la st M) := evC ((pm214 X 32).trans rfl) la st M
theorem e214_33 (X : aX) (la : aLs) (st : List aV) (M : aM) : go X 214 33 la st M = kC X 214 (i_stj 0 34 la st M) := evC ((pm214 X 33).trans rfl) la st M
theorem e214_34 (X : aX) (la : aLs) (st : List aV) (M : aM) : go X 214 34 la st M = kC X 214 (i_ldj 0 35 la st M) := evC ((pm214 X 34).trans rfl) la st M
theorem e214_35 (X : aX) (la : aLs) (st : List aV) (M : aM) : go X 214 35 la st M = kC X 214 (i_ldj 0 36 la st M) := evC ((pm214 X 35).trans rfl) la st M
theorem e214_36 (X : aX) (la : aLs) (st : List aV) (M : aM) : go X 214 36 la st M = kC X 214 (i_ci (nI 8) 38 la st M) := evC ((pm214 X 36).trans rfl) la st M
theorem e214_38 (X : aX) (la : aLs) (st : List aV) (M : aM) : go X 214 38 la st M = kC X 214 (i_shj (fun x y => (x.toUInt64 >>> (y.toInt64.toUInt64 &&& Int64.toUInt64 63)).toInt64) 39 la st M) := evC ((pm214 X 38).trans rfl) la st M
theorem e214_39 (X : aX) (la : aLs) (st : List aV) (M : aM) : go X 214 39 la st M = kC X 214 (i_bnj (fun x y => x + y) 40 la st M) := evC ((pm214 X 39).trans rfl) la st M
theorem e214_40 (X : aX) (la : aLs) (st : List aV) (M : aM) : go X 214 40 la st M = kC X 214 (i_stj 0 41 la st M) := evC ((pm214 X 40).trans rfl) la st M
theorem e214_41 (X : aX) (la : aLs) (st : List aV) (M : aM) : go X 214 41 la st M = kC X 214 (i_ldj 0 42 la st M) := evC ((pm214 X 41).trans rfl) la st M
theorem e214_42 (X : aX) (la : aLs) (st : List aV) (M : aM) : go X 214 42 la st M = kC X 214 (i_ldj 0 43 la st M) := evC ((pm214 X 42).trans rfl) la st M
theorem e214_43 (X : aX) (la : aLs) (st : List aV) (M : aM) : go X 214 43 la st M = kC X 214 (i_ci (nI 16) 45 la st M) := evC ((pm214 X 43).trans rfl) la st M
theorem e214_45 (X : aX) (la : aLs) (st : List aV) (M : aM) : go X 214 45 la st M = kC X 214 (i_shj (fun x y => (x.toUInt64 >>> (y.toInt64.toUInt64 &&& Int64.toUInt64 63)).toInt64) 46 la st M) := evC ((pm214 X 45).trans rfl) la st M
theorem e214_46 (X : aX) (la : aLs) (st : List aV) (M : aM) : go X 214 46 la st M = kC X 214 (i_bnj (fun x y => x + y) 47 la st M) := evC ((pm214 X 46).trans rfl) la st M
theorem e214_47 (X : aX) (la : aLs) (st : List aV) (M : aM) : go X 214 47 la st M = kC X 214 (i_stj 0 48 la st M) := evC ((pm214 X 47).trans rfl) la st M
theorem e214_48 (X : aX) (la : aLs) (st : List aV) (M : aM) : go X 214 48 la st M = kC X 214 (i_ldj 0 49 la st M) := evC ((pm214 X 48).trans rfl) la st M
theorem e214_49 (X : aX) (la : aLs) (st : List aV) (M : aM) : go X 214 49 la st M = kC X 214 (i_ldj 0 50 la st M) := evC ((pm214 X 49).trans rfl) la st M
theorem e214_50 (X : aX) (la : aLs) (st : List aV) (M : aM) : go X 214 50 la st M = kC X 214 (i_ci (nI 32) 52 la st M) := evC ((pm214 X 50).trans rfl) la st M
theorem e214_52 (X : aX) (la : aLs) (st : List aV) (M : aM) : go X 214 52 la st M = kC X 214 (i_shj (fun x y => (x.toUInt64 >>> (y.toInt64.toUInt64 &&& Int64.toUInt64 63)).toInt64) 53 la st M) := evC ((pm214 X 52).trans rfl) la st M
theorem e214_53 (X : aX) (la : aLs) (st : List aV) (M : aM) : go X 214 53 la st M = kC X 214 (i_bnj (fun x y => x + y) 54 la st M) := evC ((pm214 X 53).trans rfl) la st M
theorem e214_54 (X : aX) (la : aLs) (st : List aV) (M : aM) : go X 214 54 la st M = kC X 214 (i_stj 0 55 la st M) := evC ((pm214 X 54).trans rfl) la st M
theorem e214_55 (X : aX) (la : aLs) (st : List aV) (M : aM) : go X 214 55 la st M = kC X 214 (i_ldj 0 56 la st M) := evC ((pm214 X 55).trans rfl) la st M
theorem e214_56 (X : aX) (la : aLs) (st : List aV) (M : aM) : go X 214 56 la st M = kC X 214 (i_l2i 57 la st M) := evC ((pm214 X 56).trans rfl) la st M
theorem e214_57 (X : aX) (la : aLs) (st : List aV) (M : aM) : go X 214 57 la st M = kC X 214 (i_ci (nI 127) 59 la st M) := evC ((pm214 X 57).trans rfl) la st M
theorem e214_59 (X : aX) (la : aLs) (st : List aV) (M : aM) : go X 214 59 la st M = kC X 214 (i_bin (fun x y => x &&& y) 60 la st M) := evC ((pm214 X 59).trans rfl) la st M
theorem e214_60 (X : aX) (la : aLs) (st : List aV) (M : aM) : go X 214 60 la st M = i_irt st M := evR ((pm214 X 60).trans rfl) la st M
theorem c214 (X : aX) (as : List aV) (M : aM) : cl X 214 as M = if cs as ≤ 2 then go X 214 0 (ent 2 as) [] M else none := rfl
theorem pm215 (X : aX) (pc : Nat) : pg X 215 pc = lk pc (tb215 X) := rfl
theorem e215_0 (X : aX) (la : aLs) (st : List aV) (M : aM) : go X 215 0 la st M = kC X 215 (i_lda 0 1 la st M) := evC ((pm215 X 0).trans rfl) la st M
theorem e215_1 (X : aX) (la : aLs) (st : List aV) (M : aM) : go X 215 1 la st M = kC X 215 (i_gsv 4 la st M) := evC ((pm215 X 1).trans rfl) la st M
theorem e215_4 (X : aX) (la : aLs) (st : List aV) (M : aM) : go X 215 4 la st M = kC X 215 (i_aln X 5 la st M) := evC ((pm215 X 4).trans rfl) la st M
theorem e215_5 (X : aX) (la : aLs) (st : List aV) (M : aM) : go X 215 5 la st M = kC X 215 (i_lda 0 6 la st M) := evC ((pm215 X 5).trans rfl) la st M
theorem e215_6 (X : aX) (la : aLs) (st : List aV) (M : aM) : go X 215 6 la st M = kK X 215 217 1 9 100 la st M := evK ((pm215 X 6).trans rfl) la st M
theorem e215_9 (X : aX) (la : aLs) (st : List aV) (M : aM) : go X 215 9 la st M = kC X 215 (i_bin (fun x y => x >>> (y &&& 31)) 10 la st M) := evC ((pm215 X 9).trans rfl) la st M
theorem e215_10 (X : aX) (la : aLs) (st : List aV) (M : aM) : go X 215 10 la st M = i_irt st M := evR ((pm215 X 10).trans rfl) la st M
theorem c215 (X : aX) (as : List aV) (M : aM) : cl X 215 as M = if cs as ≤ 1 then go X 215 0 (ent 1 as) [] M else none := rfl
theorem pm216 (X : aX) (pc : Nat) : pg X 216 pc = lk pc (tb216 X) := rfl
theorem e216_0 (X : aX) (la : aLs) (st : List aV) (M : aM) : go X 216 0 la st M = kC X 216 (i_lda 0 1 la st M) := evC ((pm216 X 0).trans rfl) la st M
theorem e216_1 (X : aX) (la : aLs) (st : List aV) (M : aM) : go X 216 1 la st M = kK X 216 218 1 4 100 la st M := evK ((pm216 X 1).trans rfl) la st M
theorem e216_4 (X : aX) (la : aLs) (st : List aV) (M : aM) : go X 216 4 la st M = kC X 216 (i_ife 16 7 la st M) := evC ((pm216 X 4).trans rfl) la st M
theorem e216_7 (X : aX) (la : aLs) (st : List aV) (M : aM) : go X 216 7 la st M = kC X 216 (i_lda 0 8 la st M) := evC ((pm216 X 7).trans rfl) la st M
theorem e216_8 (X : aX) (la : aLs) (st : List aV) (M : aM) : go X 216 8 la st M = kC X 216 (i_gsv 11 la st M) := evC ((pm216 X 8).trans rfl) la st M
theorem e216_11 (X : aX) (la : aLs) (st : List aV) (M : aM) : go X 216 11 la st M = kC X 216 (i_ldi 1 12 la st M) := evC ((pm216 X 11).trans rfl) la st M
theorem e216_12 (X : aX) (la : aLs) (st : List aV) (M : aM) : go X 216 12 la st M = kK X 216 220 2 15 0 la st M := evK ((pm216 X 12).trans rfl) la st M
theorem e216_15 (X : aX) (la : aLs) (st : List aV) (M : aM) : go X 216 15 la st M = i_nrt .char st M := evR ((pm216 X 15).trans rfl) la st M
theorem e216_16 (X : aX) (la : aLs) (st : List aV) (M : aM) : go X 216 16 la st M = kC X 216 (i_lda 0 17 la st M) := evC ((pm216 X 16).trans rfl) la st M
theorem e216_17 (X : aX) (la : aLs) (st : List aV) (M : aM) : go X 216 17 la st M = kC X 216 (i_gsv 20 la st M) := evC ((pm216 X 17).trans rfl) la st M
theorem e216_20 (X : aX) (la : aLs) (st : List aV) (M : aM) : go X 216 20 la st M = kC X 216 (i_ldi 1 21 la st M) := evC ((pm216 X 20).trans rfl) la st M
theorem e216_21 (X : aX) (la : aLs) (st : List aV) (M : aM) : go X 216 21 la st M = kC X 216 (i_no la st M) := evC ((pm216 X 21).trans rfl) la st M
theorem e216_24 (X : aX) (la : aLs) (st : List aV) (M : aM) : go X 216 24 la st M = i_nrt .char st M := evR ((pm216 X 24).trans rfl) la st M
theorem c216 (X : aX) (as : List aV) (M : aM) : cl X 216 as M = if cs as ≤ 2 then go X 216 0 (ent 2 as) [] M else none := rfl
theorem pm217 (X : aX) (pc : Nat) : pg X 217 pc = lk pc (tb217 X) := rfl
theorem e217_0 (X : aX) (la : aLs) (st : List aV) (M : aM) : go X 217 0 la st M = kC X 217 (i_ca (aI (nI 1)) 3 la st M) := evC ((pm217 X 0).trans rfl) la st M
theorem e217_3 (X : aX) (la : aLs) (st : List aV) (M : aM) : go X 217 3 la st M = kC X 217 (i_ife 13 6 la st M) := evC ((pm217 X 3).trans rfl) la st M
theorem e217_6 (X : aX) (la : aLs) (st : List aV) (M : aM) : go X 217 6 la st M = kC X 217 (i_lda 0 7 la st M) := evC ((pm217 X 6).trans rfl) la st M
theorem e217_7 (X : aX) (la : aLs) (st : List aV) (M : aM) : go X 217 7 la st M = kC X 217 (i_gsc 10 la st M) := evC ((pm217 X 7).trans rfl) la st M
theorem e217_10 (X : aX) (la : aLs) (st : List aV) (M : aM) : go X 217 10 la st M = kC X 217 (i_go 14 la st M) := evC ((pm217 X 10).trans rfl) la st M
theorem e217_13 (X : aX) (la : aLs) (st : List aV) (M : aM) : go X 217 13 la st M = kC X 217 (i_ci (nI 1) 14 la st M) := evC ((pm217 X 13).trans rfl) la st M
theorem e217_14 (X : aX) (la : aLs) (st : List aV) (M : aM) : go X 217 14 la st M = i_nrt .byte st M := evR ((pm217 X 14).trans rfl) la st M
theorem c217 (X : aX) (as : List aV) (M : aM) : cl X 217 as M = if cs as ≤ 1 then go X 217 0 (ent 1 as) [] M else none := rfl
theorem pm218 (X : aX) (pc : Nat) : pg X 218 pc = lk pc (tb218 X) := rfl
theorem e218_0 (X : aX) (la : aLs) (st : List aV) (M : aM) : go X 218 0 la st M = kC X 218 (i_ca (aI (nI 1)) 3 la st M) := evC ((pm218 X 0).trans rfl) la st M
theorem e218_3 (X : aX) (la : aLs) (st : List aV) (M : aM) : go X 218 3 la st M = kC X 218 (i_ife 17 6 la st M) := evC ((pm218 X 3).trans rfl) la st M
theorem e218_6 (X : aX) (la : aLs) (st : List aV) (M : aM) : go X 218 6 la st M = kC X 218 (i_lda 0 7 la st M) := evC ((pm218 X 6).trans rfl) la st M
theorem e218_7 (X : aX) (la : aLs) (st : List aV) (M : aM) : go X 218 7 la st M = kC X 218 (i_gsc 10 la st M) := evC ((pm218 X 7).trans rfl) la st M
theorem e218_10 (X : aX) (la : aLs) (st : List aV) (M : aM) : go X 218 10 la st M = kC X 218 (i_ife 13 17 la st M) := evC ((pm218 X 10).trans rfl) la st M
theorem e218_13 (X : aX) (la : aLs) (st : List aV) (M : aM) : go X 218 13 la st M = kC X 218 (i_ci (nI 1) 14 la st M) := evC ((pm218 X 13).trans rfl) la st M
theorem e218_14 (X : aX) (la : aLs) (st : List aV) (M : aM) : go X 218 14 la st M = kC X 218 (i_go 18 la st M) := evC ((pm218 X 14).trans rfl) la st M
theorem e218_17 (X : aX) (la : aLs) (st : List aV) (M : aM) : go X 218 17 la st M = kC X 218 (i_ci (nI 0) 18 la st M) := evC ((pm218 X 17).trans rfl) la st M
theorem e218_18 (X : aX) (la : aLs) (st : List aV) (M : aM) : go X 218 18 la st M = i_zrt st M := evR ((pm218 X 18).trans rfl) la st M
theorem c218 (X : aX) (as : List aV) (M : aM) : cl X 218 as M = if cs as ≤ 1 then go X 218 0 (ent 1 as) [] M else none := rfl
theorem pm219 (X : aX) (pc : Nat) : pg X 219 pc = lk pc (tb219 X) := rfl
theorem e219_0 (X : aX) (la : aLs) (st : List aV) (M : aM) : go X 219 0 la st M = kC X 219 (i_ldi 0 1 la st M) := evC ((pm219 X 0).trans rfl) la st M
theorem e219_1 (X : aX) (la : aLs) (st : List aV) (M : aM) : go X 219 1 la st M = kC X 219 (i_ldi 1 2 la st M) := evC ((pm219 X 1).trans rfl) la st M
theorem e219_2 (X : aX) (la : aLs) (st : List aV) (M : aM) : go X 219 2 la st M = kC X 219 (i_ca (aR (95, 0, 0)) 5 la st M) := evC ((pm219 X 2).trans rfl) la st M
theorem e219_5 (X : aX) (la : aLs) (st : List aV) (M : aM) : go X 219 5 la st M = kK X 219 221 3 8 0 la st M := evK ((pm219 X 5).trans rfl) la st M
theorem e219_8 (X : aX) (la : aLs) (st : List aV) (M : aM) : go X 219 8 la st M = kC X 219 (i_pop 9 la st M) := evC ((pm219 X 8).trans rfl) la st M
theorem e219_9 (X : aX) (la : aLs) (st : List aV) (M : aM) : go X 219 9 la st M = i_vrt st M := evR ((pm219 X 9).trans rfl) la st M
theorem c219 (X : aX) (as : List aV) (M : aM) : cl X 219 as M = if cs as ≤ 2 then go X 219 0 (ent 2 as) [] M else none := rfl
theorem pm220 (X : aX) (pc : Nat) : pg X 220 pc = lk pc (tb220 X) := rfl
theorem e220_0 (X : aX) (la : aLs) (st : List aV) (M : aM) : go X 220 0 la st M = kC X 220 (i_ldi 1 1 la st M) := evC ((pm220 X 0).trans rfl) la st M
theorem e220_1 (X : aX) (la : aLs) (st : List aV) (M : aM) : go X 220 1 la st M = kC X 220 (i_lda 0 2 la st M) := evC ((pm220 X 1).trans rfl) la st M
theorem e220_2 (X : aX) (la : aLs) (st : List aV) (M : aM) : go X 220 2 la st M = kC X 220 (i_aln X 3 la st M) := evC ((pm220 X 2).trans rfl) la st M
theorem e220_3 (X : aX) (la : aLs) (st : List aV) (M : aM) : go X 220 3 la st M = kK X 220 219 2 6 0 la st M := evK ((pm220 X 3).trans rfl) la st M
theorem e220_6 (X : aX) (la : aLs) (st : List aV) (M : aM) : go X 220 6 la st M = kC X 220 (i_lda 0 7 la st M) := evC ((pm220 X 6).trans rfl) la st M
theorem e220_7 (X : aX) (la : aLs) (st : List aV) (M : aM) : go X 220 7 la st M = kC X 220 (i_ldi 1 8 la st M) := evC ((pm220 X 7).trans rfl) la st M
theorem e220_8 (X : aX) (la : aLs) (st : List aV) (M : aM) : go X 220 8 la st M = kC X 220 (i_bal 9 la st M) := evC ((pm220 X 8).trans rfl) la st M
theorem e220_9 (X : aX) (la : aLs) (st : List aV) (M : aM) : go X 220 9 la st M = kC X 220 (i_ci (nI 255) 12 la st M) := evC ((pm220 X 9).trans rfl) la st M
theorem e220_12 (X : aX) (la : aLs) (st : List aV) (M : aM) : go X 220 12 la st M = kC X 220 (i_bin (fun x y => x &&& y) 13 la st M) := evC ((pm220 X 12).trans rfl) la st M
theorem e220_13 (X : aX) (la : aLs) (st : List aV) (M : aM) : go X 220 13 la st M = kC X 220 (i_un (fun x => (x.toUInt32 % 65536).toInt32) 14 la st M) := evC ((pm220 X 13).trans rfl) la st M
theorem e220_14 (X : aX) (la : aLs) (st : List aV) (M : aM) : go X 220 14 la st M = i_nrt .char st M := evR ((pm220 X 14).trans rfl) la st M
theorem c220 (X : aX) (as : List aV) (M : aM) : cl X 220 as M = if cs as ≤ 2 then go X 220 0 (ent 2 as) [] M else none := rfl
theorem pm221 (X : aX) (pc : Nat) : pg X 221 pc = lk pc (tb221 X) := rfl
theorem e221_0 (X : aX) (la : aLs) (st : List aV) (M : aM) : go X 221 0 la st M = kC X 221 (i_ldi 0 1 la st M) := evC ((pm221 X 0).trans rfl) la st M
theorem e221_1 (X : aX) (la : aLs) (st : List aV) (M : aM) : go X 221 1 la st M = kC X 221 (i_ifl 9 4 la st M) := evC ((pm221 X 1).trans rfl) la st M
theorem e221_4 (X : aX) (la : aLs) (st : List aV) (M : aM) : go X 221 4 la st M = kC X 221 (i_ldi 0 5 la st M) := evC ((pm221 X 4).trans rfl) la st M
theorem e221_5 (X : aX) (la : aLs) (st : List aV) (M : aM) : go X 221 5 la st M = kC X 221 (i_ldi 1 6 la st M) := evC ((pm221 X 5).trans rfl) la st M
theorem e221_6 (X : aX) (la : aLs) (st : List aV) (M : aM) : go X 221 6 la st M = kC X 221 (i_cml 16 9 la st M) := evC ((pm221 X 6).trans rfl) la st M
theorem e221_9 (X : aX) (la : aLs) (st : List aV) (M : aM) : go X 221 9 la st M = kC X 221 (i_lda 2 10 la st M) := evC ((pm221 X 9).trans rfl) la st M
theorem e221_10 (X : aX) (la : aLs) (st : List aV) (M : aM) : go X 221 10 la st M = kC X 221 (i_ldi 0 11 la st M) := evC ((pm221 X 10).trans rfl) la st M
theorem e221_11 (X : aX) (la : aLs) (st : List aV) (M : aM) : go X 221 11 la st M = kC X 221 (i_ldi 1 12 la st M) := evC ((pm221 X 11).trans rfl) la st M
theorem e221_12 (X : aX) (la : aLs) (st : List aV) (M : aM) : go X 221 12 la st M = kC X 221 (i_no la st M) := evC ((pm221 X 12).trans rfl) la st M
theorem e221_15 (X : aX) (la : aLs) (st : List aV) (M : aM) : go X 221 15 la st M = kC X 221 (i_no la st M) := evC ((pm221 X 15).trans rfl) la st M
theorem e221_16 (X : aX) (la : aLs) (st : List aV) (M : aM) : go X 221 16 la st M = kC X 221 (i_ldi 0 17 la st M) := evC ((pm221 X 16).trans rfl) la st M
theorem e221_17 (X : aX) (la : aLs) (st : List aV) (M : aM) : go X 221 17 la st M = i_irt st M := evR ((pm221 X 17).trans rfl) la st M
theorem c221 (X : aX) (as : List aV) (M : aM) : cl X 221 as M = if cs as ≤ 3 then go X 221 0 (ent 3 as) [] M else none := rfl
set_option maxRecDepth 100000 in
theorem pm222 (X : aX) (pc : Nat) : pg X 222 pc = lk pc (tb222 X) := rfl
set_option maxRecDepth 100000 in
theorem e222_0 (X : aX) (la : aLs) (st : List aV) (M : aM) : go X 222 0 la st M = kC X 222 (i_new 5 3 la st M) := evC ((pm222 X 0).trans rfl) la st M
set_option maxRecDepth 100000 in
theorem e222_3 (X : aX) (la : aLs) (st : List aV) (M : aM) : go X 222 3 la st M = kC X 222 (i_dup 4 la st M) := evC ((pm222 X 3).trans rfl) la st M
set_option maxRecDepth 100000 in
theorem e222_4 (X : aX) (la : aLs) (st : List aV) (M : aM) : go X 222 4 la st M = kK X 222 61 1 7 6 la st M := evK ((pm222 X 4).trans rfl) la st M
set_option maxRecDepth 100000 in
theorem e222_7 (X : aX) (la : aLs) (st : List aV) (M : aM) : go X 222 7 la st M = kC X 222 (i_sta 1 8 la st M) := evC ((pm222 X 7).trans rfl) la st M
set_option maxRecDepth 100000 in
theorem e222_8 (X : aX) (la : aLs) (st : List aV) (M : aM) : go X 222 8 la st M = kC X 222 (i_new 6 11 la st M) := evC ((pm222 X 8).trans rfl) la st M
set_option maxRecDepth 100000 in
theorem e222_11 (X : aX) (la : aLs) (st : List aV) (M : aM) : go X 222 11 la st M = kC X 222 (i_dup 12 la st M) := evC ((pm222 X 11).trans rfl) la st M
set_option maxRecDepth 100000 in
theorem e222_12 (X : aX) (la : aLs) (st : List aV) (M : aM) : go X 222 12 la st M = kK X 222 112 1 15 7 la st M := evK ((pm222 X 12).trans rfl) la st M
set_option maxRecDepth 100000 in
theorem e222_15 (X : aX) (la : aLs) (st : List aV) (M : aM) : go X 222 15 la st M = kC X 222 (i_sta 2 16 la st M) := evC ((pm222 X 15).trans rfl) la st M
set_option maxRecDepth 100000 in
theorem e222_16 (X : aX) (la : aLs) (st : List aV) (M : aM) : go X 222 16 la st M = kC X 222 (i_ci (nI 0) 17 la st M) := evC ((pm222 X 16).trans rfl) la st M
set_option maxRecDepth 100000 in
theorem e222_17 (X : aX) (la : aLs) (st : List aV) (M : aM) : go X 222 17 la st M = kC X 222 (i_sti 3 18 la st M) := evC ((pm222 X 17).trans rfl) la st M
set_option maxRecDepth 100000 in
theorem e222_18 (X : aX) (la : aLs) (st : List aV) (M : aM) : go X 222 18 la st M = kC X 222 (i_ldi 3 19 la st M) := evC ((pm222 X 18).trans rfl) la st M
set_option maxRecDepth 100000 in
theorem e222_19 (X : aX) (la : aLs) (st : List aV) (M : aM) : go X 222 19 la st M = kC X 222 (i_lda 0 20 la st M) := evC ((pm222 X 19).trans rfl) la st M
set_option maxRecDepth 100000 in
theorem e222_20 (X : aX) (la : aLs) (st : List aV) (M : aM) : go X 222 20 la st M = kC X 222 (i_aln X 21 la st M) := evC ((pm222 X 20).trans rfl) la st M
set_option maxRecDepth 100000 in
theorem e222_21 (X : aX) (la : aLs) (st : List aV) (M : aM) : go X 222 21 la st M = kC X 222 (i_ci (nI 6) 23 la st M) := evC ((pm222 X 21).trans rfl) la st M
set_option maxRecDepth 100000 in
theorem e222_23 (X : aX) (la : aLs) (st : List aV) (M : aM) : go X 222 23 la st M = kC X 222 (i_bin (fun x y => x - y) 24 la st M) := evC ((pm222 X 23).trans rfl) la st M
set_option maxRecDepth 100000 in
theorem e222_24 (X : aX) (la : aLs) (st : List aV) (M : aM) : go X 222 24 la st M = kC X 222 (i_cmg 1328 27 la st M) := evC ((pm222 X 24).trans rfl) la st M
set_option maxRecDepth 100000 in
theorem e222_27 (X : aX) (la : aLs) (st : List aV) (M : aM) : go X 222 27 la st M = kC X 222 (i_lda 0 28 la st M) := evC ((pm222 X 27).trans rfl) la st M
set_option maxRecDepth 100000 in
theorem e222_28 (X : aX) (la : aLs) (st : List aV) (M : aM) : go X 222 28 la st M = kC X 222 (i_ldi 3 29 la st M) := evC ((pm222 X 28).trans rfl) la st M
set_option maxRecDepth 100000 in
theorem e222_29 (X : aX) (la : aLs) (st : List aV) (M : aM) : go X 222 29 la st M = kC X 222 (i_ial X 30 la st M) := evC ((pm222 X 29).trans rfl) la st M
set_option maxRecDepth 100000 in
theorem e222_30 (X : aX) (la : aLs) (st : List aV) (M : aM) : go X 222 30 la st M = kC X 222 (i_ci (nI 63) 32 la st M) := evC ((pm222 X 30).trans rfl) la st M
set_option maxRecDepth 100000 in
theorem e222_32 (X : aX) (la : aLs) (st : List aV) (M : aM) : go X 222 32 la st M = kC X 222 (i_bin (fun x y => x &&& y) 33 la st M) := evC ((pm222 X 32).trans rfl) la st M
set_option maxRecDepth 100000 in
theorem e222_33 (X : aX) (la : aLs) (st : List aV) (M : aM) : go X 222 33 la st M = kC X 222 (i_sw [(nI 0, 204), (nI 1, 237), (nI 2, 270), (nI 3, 313), (nI 4, 336), (nI 5, 359), (nI 6, 382), (nI 7, 405), (nI 8, 448), (nI 9, 471), (nI 10, 504), (nI 11, 527), (nI 12, 560), (nI 13, 593), (nI 14, 626), (nI 15, 659), (nI 16, 692), (nI 17, 715), (nI 18, 738), (nI 19, 771), (nI 20, 804), (nI 21, 837), (nI 22, 860), (nI 23, 894), (nI 24, 917), (nI 25, 950), (nI 26, 963), (nI 27, 976), (nI 28, 1009), (nI 29, 1042), (nI 30, 1085), (nI 31, 1128), (nI 32, 1191), (nI 33, 1214), (nI 34, 1237), (nI 35, 1250), (nI 36, 1263), (nI 37, 1276), (nI 38, 1299)] 1322 la st M) := evC ((pm222 X 33).trans rfl) la st M
set_option maxRecDepth 100000 in
theorem e222_204 (X : aX) (la : aLs) (st : List aV) (M : aM) : go X 222 204 la st M = kC X 222 (i_lda 1 205 la st M) := evC ((pm222 X 204).trans rfl) la st M
set_option maxRecDepth 100000 in
theorem e222_205 (X : aX) (la : aLs) (st : List aV) (M : aM) : go X 222 205 la st M = kC X 222 (i_lda 0 206 la st M) := evC ((pm222 X 205).trans rfl) la st M
set_option maxRecDepth 100000 in
theorem e222_206 (X : aX) (la : aLs) (st : List aV) (M : aM) : go X 222 206 la st M = kC X 222 (i_ldi 3 207 la st M) := evC ((pm222 X 206).trans rfl) la st M
set_option maxRecDepth 100000 in
theorem e222_207 (X : aX) (la : aLs) (st : List aV) (M : aM) : go X 222 207 la st M = kC X 222 (i_ci (nI 1) 208 la st M) := evC ((pm222 X 207).trans rfl) la st M
set_option maxRecDepth 100000 in
theorem e222_208 (X : aX) (la : aLs) (st : List aV) (M : aM) : go X 222 208 la st M = kC X 222 (i_bin (fun x y => x + y) 209 la st M) := evC ((pm222 X 208).trans rfl) la st M
set_option maxRecDepth 100000 in
theorem e222_209 (X : aX) (la : aLs) (st : List aV) (M : aM) : go X 222 209 la st M = kC X 222 (i_ial X 210 la st M) := evC ((pm222 X 209).trans rfl) la st M
set_option maxRecDepth 100000 in
theorem e222_210 (X : aX) (la : aLs) (st : List aV) (M : aM) : go X 222 210 la st M = kC X 222 (i_lda 0 211 la st M) := evC ((pm222 X 210).trans rfl) la st M
set_option maxRecDepth 100000 in
theorem e222_211 (X : aX) (la : aLs) (st : List aV) (M : aM) : go X 222 211 la st M = kC X 222 (i_ldi 3 212 la st M) := evC ((pm222 X 211).trans rfl) la st M
set_option maxRecDepth 100000 in
theorem e222_212 (X : aX) (la : aLs) (st : List aV) (M : aM) : go X 222 212 la st M = kC X 222 (i_ci (nI 2) 213 la st M) := evC ((pm222 X 212).trans rfl) la st M
set_option maxRecDepth 100000 in
theorem e222_213 (X : aX) (la : aLs) (st : List aV) (M : aM) : go X 222 213 la st M = kC X 222 (i_bin (fun x y => x + y) 214 la st M) := evC ((pm222 X 213).trans rfl) la st M
set_option maxRecDepth 100000 in
theorem e222_214 (X : aX) (la : aLs) (st : List aV) (M : aM) : go X 222 214 la st M = kC X 222 (i_ial X 215 la st M) := evC ((pm222 X 214).trans rfl) la st M
set_option maxRecDepth 100000 in
theorem e222_215 (X : aX) (la : aLs) (st : List aV) (M : aM) : go X 222 215 la st M = kK X 222 62 3 218 6 la st M := evK ((pm222 X 215).trans rfl) la st M
set_option maxRecDepth 100000 in
theorem e222_218 (X : aX) (la : aLs) (st : List aV) (M : aM) : go X 222 218 la st M = kC X 222 (i_lda 2 219 la st M) := evC ((pm222 X 218).trans rfl) la st M
set_option maxRecDepth 100000 in
theorem e222_219 (X : aX) (la : aLs) (st : List aV) (M : aM) : go X 222 219 la st M = kC X 222 (i_lda 0 220 la st M) := evC ((pm222 X 219).trans rfl) la st M
set_option maxRecDepth 100000 in
theorem e222_220 (X : aX) (la : aLs) (st : List aV) (M : aM) : go X 222 220 la st M = kC X 222 (i_ldi 3 221 la st M) := evC ((pm222 X 220).trans rfl) la st M
set_option maxRecDepth 100000 in
theorem e222_221 (X : aX) (la : aLs) (st : List aV) (M : aM) : go X 222 221 la st M = kC X 222 (i_ci (nI 1) 222 la st M) := evC ((pm222 X 221).trans rfl) la st M
set_option maxRecDepth 100000 in
theorem e222_222 (X : aX) (la : aLs) (st : List aV) (M : aM) : go X 222 222 la st M = kC X 222 (i_bin (fun x y => x + y) 223 la st M) := evC ((pm222 X 222).trans rfl) la st M
set_option maxRecDepth 100000 in
theorem e222_223 (X : aX) (la : aLs) (st : List aV) (M : aM) : go X 222 223 la st M = kC X 222 (i_ial X 224 la st M) := evC ((pm222 X 223).trans rfl) la st M
set_option maxRecDepth 100000 in
theorem e222_224 (X : aX) (la : aLs) (st : List aV) (M : aM) : go X 222 224 la st M = kC X 222 (i_lda 0 225 la st M) := evC ((pm222 X 224).trans rfl) la st M
set_option maxRecDepth 100000 in
theorem e222_225 (X : aX) (la : aLs) (st : List aV) (M : aM) : go X 222 225 la st M = kC X 222 (i_ldi 3 226 la st M) := evC ((pm222 X 225).trans rfl) la st M
set_option maxRecDepth 100000 in
theorem e222_226 (X : aX) (la : aLs) (st : List aV) (M : aM) : go X 222 226 la st M = kC X 222 (i_ci (nI 2) 227 la st M) := evC ((pm222 X 226).trans rfl) la st M
set_option maxRecDepth 100000 in
theorem e222_227 (X : aX) (la : aLs) (st : List aV) (M : aM) : go X 222 227 la st M = kC X 222 (i_bin (fun x y => x + y) 228 la st M) := evC ((pm222 X 227).trans rfl) la st M
set_option maxRecDepth 100000 in
theorem e222_228 (X : aX) (la : aLs) (st : List aV) (M : aM) : go X 222 228 la st M = kC X 222 (i_ial X 229 la st M) := evC ((pm222 X 228).trans rfl) la st M
set_option maxRecDepth 100000 in
theorem e222_229 (X : aX) (la : aLs) (st : List aV) (M : aM) : go X 222 229 la st M = kK X 222 126 3 232 7 la st M := evK ((pm222 X 229).trans rfl) la st M
set_option maxRecDepth 100000 in
theorem e222_232 (X : aX) (la : aLs) (st : List aV) (M : aM) : go X 222 232 la st M = kC X 222 (i_cme 1322 235 la st M) := evC ((pm222 X 232).trans rfl) la st M
set_option maxRecDepth 100000 in
theorem e222_235 (X : aX) (la : aLs) (st : List aV) (M : aM) : go X 222 235 la st M = kC X 222 (i_ci (nI 0) 236 la st M) := evC ((pm222 X 235).trans rfl) la st M
set_option maxRecDepth 100000 in
theorem e222_236 (X : aX) (la : aLs) (st : List aV) (M : aM) : go X 222 236 la st M = i_zrt st M := evR ((pm222 X 236).trans rfl) la st M
set_option maxRecDepth 100000 in
theorem e222_237 (X : aX) (la : aLs) (st : List aV) (M : aM) : go X 222 237 la st M = kC X 222 (i_lda 1 238 la st M) := evC ((pm222 X 237).trans rfl) la st M
set_option maxRecDepth 100000 in
theorem e222_238 (X : aX) (la : aLs) (st : List aV) (M : aM) : go X 222 238 la st M = kC X 222 (i_lda 0 239 la st M) := evC ((pm222 X 238).trans rfl) la st M
set_option maxRecDepth 100000 in
theorem e222_239 (X : aX) (la : aLs) (st : List aV) (M : aM) : go X 222 239 la st M = kC X 222 (i_ldi 3 240 la st M) := evC ((pm222 X 239).trans rfl) la st M
set_option maxRecDepth 100000 in
theorem e222_240 (X : aX) (la : aLs) (st : List aV) (M : aM) : go X 222 240 la st M = kC X 222 (i_ci (nI 1) 241 la st M) := evC ((pm222 X 240).trans rfl) la st M
set_option maxRecDepth 100000 in
theorem e222_241 (X : aX) (la : aLs) (st : List aV) (M : aM) : go X 222 241 la st M = kC X 222 (i_bin (fun x y => x + y) 242 la st M) := evC ((pm222 X 241).trans rfl) la st M
set_option maxRecDepth 100000 in
theorem e222_242 (X : aX) (la : aLs) (st : List aV) (M : aM) : go X 222 242 la st M = kC X 222 (i_ial X 243 la st M) := evC ((pm222 X 242).trans rfl) la st M
set_option maxRecDepth 100000 in
theorem e222_243 (X : aX) (la : aLs) (st : List aV) (M : aM) : go X 222 243 la st M = kC X 222 (i_lda 0 244 la st M) := evC ((pm222 X 243).trans rfl) la st M
set_option maxRecDepth 100000 in
theorem e222_244 (X : aX) (la : aLs) (st : List aV) (M : aM) : go X 222 244 la st M = kC X 222 (i_ldi 3 245 la st M) := evC ((pm222 X 244).trans rfl) la st M
set_option maxRecDepth 100000 in
theorem e222_245 (X : aX) (la : aLs) (st : List aV) (M : aM) : go X 222 245 la st M = kC X 222 (i_ci (nI 2) 246 la st M) := evC ((pm222 X 245).trans rfl) la st M
set_option maxRecDepth 100000 in
theorem e222_246 (X : aX) (la : aLs) (st : List aV) (M : aM) : go X 222 246 la st M = kC X 222 (i_bin (fun x y => x + y) 247 la st M) := evC ((pm222 X 246).trans rfl) la st M
set_option maxRecDepth 100000 in
theorem e222_247 (X : aX) (la : aLs) (st : List aV) (M : aM) : go X 222 247 la st M = kC X 222 (i_ial X 248 la st M) := evC ((pm222 X 247).trans rfl) la st M
set_option maxRecDepth 100000 in
theorem e222_248 (X : aX) (la : aLs) (st : List aV) (M : aM) : go X 222 248 la st M = kK X 222 63 3 251 6 la st M := evK ((pm222 X 248).trans rfl) la st M
set_option maxRecDepth 100000 in
theorem e222_251 (X : aX) (la : aLs) (st : List aV) (M : aM) : go X 222 251 la st M = kC X 222 (i_lda 2 252 la st M) := evC ((pm222 X 251).trans rfl) la st M
set_option maxRecDepth 100000 in
theorem e222_252 (X : aX) (la : aLs) (st : List aV) (M : aM) : go X 222 252 la st M = kC X 222 (i_lda 0 253 la st M) := evC ((pm222 X 252).trans rfl) la st M
set_option maxRecDepth 100000 in
theorem e222_253 (X : aX) (la : aLs) (st : List aV) (M : aM) : go X 222 253 la st M = kC X 222 (i_ldi 3 254 la st M) := evC ((pm222 X 253).trans rfl) la st M
set_option maxRecDepth 100000 in
theorem e222_254 (X : aX) (la : aLs) (st : List aV) (M : aM) : go X 222 254 la st M = kC X 222 (i_ci (nI 1) 255 la st M) := evC ((pm222 X 254).trans rfl) la st M
set_option maxRecDepth 100000 in
theorem e222_255 (X : aX) (la : aLs) (st : List aV) (M : aM) : go X 222 255 la st M = kC X 222 (i_bin (fun x y => x + y) 256 la st M) := evC ((pm222 X 255).trans rfl) la st M
set_option maxRecDepth 100000 in
theorem e222_256 (X : aX) (la : aLs) (st : List aV) (M : aM) : go X 222 256 la st M = kC X 222 (i_ial X 257 la st M) := evC ((pm222 X 256).trans rfl) la st M
set_option maxRecDepth 100000 in
theorem e222_257 (X : aX) (la : aLs) (st : List aV) (M : aM) : go X 222 257 la st M = kC X 222 (i_lda 0 258 la st M) := evC ((pm222 X 257).trans rfl) la st M
set_option maxRecDepth 100000 in
theorem e222_258 (X : aX) (la : aLs) (st : List aV) (M : aM) : go X 222 258 la st M = kC X 222 (i_ldi 3 259 la st M) := evC ((pm222 X 258).trans rfl) la st M
set_option maxRecDepth 100000 in
theorem e222_259 (X : aX) (la : aLs) (st : List aV) (M : aM) : go X 222 259 la st M = kC X 222 (i_ci (nI 2) 260 la st M) := evC ((pm222 X 259).trans rfl) la st M
set_option maxRecDepth 100000 in
theorem e222_260 (X : aX) (la : aLs) (st : List aV) (M : aM) : go X 222 260 la st M = kC X 222 (i_bin (fun x y => x + y) 261 la st M) := evC ((pm222 X 260).trans rfl) la st M
set_option maxRecDepth 100000 in
theorem e222_261 (X : aX) (la : aLs) (st : List aV) (M : aM) : go X 222 261 la st M = kC X 222 (i_ial X 262 la st M) := evC ((pm222 X 261).trans rfl) la st M
set_option maxRecDepth 100000 in
theorem e222_262 (X : aX) (la : aLs) (st : List aV) (M : aM) : go X 222 262 la st M = kK X 222 135 3 265 7 la st M := evK ((pm222 X 262).trans rfl) la st M
set_option maxRecDepth 100000 in
theorem e222_265 (X : aX) (la : aLs) (st : List aV) (M : aM) : go X 222 265 la st M = kC X 222 (i_cme 1322 268 la st M) := evC ((pm222 X 265).trans rfl) la st M
set_option maxRecDepth 100000 in
theorem e222_268 (X : aX) (la : aLs) (st : List aV) (M : aM) : go X 222 268 la st M = kC X 222 (i_ci (nI 0) 269 la st M) := evC ((pm222 X 268).trans rfl) la st M
set_option maxRecDepth 100000 in
theorem e222_269 (X : aX) (la : aLs) (st : List aV) (M : aM) : go X 222 269 la st M = i_zrt st M := evR ((pm222 X 269).trans rfl) la st M
set_option maxRecDepth 100000 in
theorem e222_270 (X : aX) (la : aLs) (st : List aV) (M : aM) : go X 222 270 la st M = kC X 222 (i_lda 1 271 la st M) := evC ((pm222 X 270).trans rfl) la st M
set_option maxRecDepth 100000 in
theorem e222_271 (X : aX) (la : aLs) (st : List aV) (M : aM) : go X 222 271 la st M = kC X 222 (i_lda 0 272 la st M) := evC ((pm222 X 271).trans rfl) la st M
set_option maxRecDepth 100000 in
theorem e222_272 (X : aX) (la : aLs) (st : List aV) (M : aM) : go X 222 272 la st M = kC X 222 (i_ldi 3 273 la st M) := evC ((pm222 X 272).trans rfl) la st M
set_option maxRecDepth 100000 in
theorem e222_273 (X : aX) (la : aLs) (st : List aV) (M : aM) : go X 222 273 la st M = kC X 222 (i_ci (nI 1) 274 la st M) := evC ((pm222 X 273).trans rfl) la st M
set_option maxRecDepth 100000 in
theorem e222_274 (X : aX) (la : aLs) (st : List aV) (M : aM) : go X 222 274 la st M = kC X 222 (i_bin (fun x y => x + y) 275 la st M) := evC ((pm222 X 274).trans rfl) la st M
set_option maxRecDepth 100000 in
theorem e222_275 (X : aX) (la : aLs) (st : List aV) (M : aM) : go X 222 275 la st M = kC X 222 (i_ial X 276 la st M) := evC ((pm222 X 275).trans rfl) la st M
set_option maxRecDepth 100000 in
theorem e222_276 (X : aX) (la : aLs) (st : List aV) (M : aM) : go X 222 276 la st M = kC X 222 (i_lda 0 277 la st M) := evC ((pm222 X 276).trans rfl) la st M
set_option maxRecDepth 100000 in
theorem e222_277 (X : aX) (la : aLs) (st : List aV) (M : aM) : go X 222 277 la st M = kC X 222 (i_ldi 3 278 la st M) := evC ((pm222 X 277).trans rfl) la st M
set_option maxRecDepth 100000 in
theorem e222_278 (X : aX) (la : aLs) (st : List aV) (M : aM) : go X 222 278 la st M = kC X 222 (i_ci (nI 2) 279 la st M) := evC ((pm222 X 278).trans rfl) la st M
set_option maxRecDepth 100000 in
theorem e222_279 (X : aX) (la : aLs) (st : List aV) (M : aM) : go X 222 279 la st M = kC X 222 (i_bin (fun x y => x + y) 280 la st M) := evC ((pm222 X 279).trans rfl) la st M
set_option maxRecDepth 100000 in
theorem e222_280 (X : aX) (la : aLs) (st : List aV) (M : aM) : go X 222 280 la st M = kC X 222 (i_ial X 281 la st M) := evC ((pm222 X 280).trans rfl) la st M
set_option maxRecDepth 100000 in
theorem e222_281 (X : aX) (la : aLs) (st : List aV) (M : aM) : go X 222 281 la st M = kC X 222 (i_lda 0 282 la st M) := evC ((pm222 X 281).trans rfl) la st M
set_option maxRecDepth 100000 in
theorem e222_282 (X : aX) (la : aLs) (st : List aV) (M : aM) : go X 222 282 la st M = kC X 222 (i_ldi 3 283 la st M) := evC ((pm222 X 282).trans rfl) la st M
set_option maxRecDepth 100000 in
theorem e222_283 (X : aX) (la : aLs) (st : List aV) (M : aM) : go X 222 283 la st M = kC X 222 (i_ci (nI 3) 284 la st M) := evC ((pm222 X 283).trans rfl) la st M
set_option maxRecDepth 100000 in
theorem e222_284 (X : aX) (la : aLs) (st : List aV) (M : aM) : go X 222 284 la st M = kC X 222 (i_bin (fun x y => x + y) 285 la st M) := evC ((pm222 X 284).trans rfl) la st M
set_option maxRecDepth 100000 in
theorem e222_285 (X : aX) (la : aLs) (st : List aV) (M : aM) : go X 222 285 la st M = kC X 222 (i_ial X 286 la st M) := evC ((pm222 X 285).trans rfl) la st M
set_option maxRecDepth 100000 in
theorem e222_286 (X : aX) (la : aLs) (st : List aV) (M : aM) : go X 222 286 la st M = kK X 222 64 4 289 6 la st M := evK ((pm222 X 286).trans rfl) la st M
set_option maxRecDepth 100000 in
theorem e222_289 (X : aX) (la : aLs) (st : List aV) (M : aM) : go X 222 289 la st M = kC X 222 (i_lda 2 290 la st M) := evC ((pm222 X 289).trans rfl) la st M
set_option maxRecDepth 100000 in
theorem e222_290 (X : aX) (la : aLs) (st : List aV) (M : aM) : go X 222 290 la st M = kC X 222 (i_lda 0 291 la st M) := evC ((pm222 X 290).trans rfl) la st M
set_option maxRecDepth 100000 in
theorem e222_291 (X : aX) (la : aLs) (st : List aV) (M : aM) : go X 222 291 la st M = kC X 222 (i_ldi 3 292 la st M) := evC ((pm222 X 291).trans rfl) la st M
set_option maxRecDepth 100000 in
theorem e222_292 (X : aX) (la : aLs) (st : List aV) (M : aM) : go X 222 292 la st M = kC X 222 (i_ci (nI 1) 293 la st M) := evC ((pm222 X 292).trans rfl) la st M
set_option maxRecDepth 100000 in
theorem e222_293 (X : aX) (la : aLs) (st : List aV) (M : aM) : go X 222 293 la st M = kC X 222 (i_bin (fun x y => x + y) 294 la st M) := evC ((pm222 X 293).trans rfl) la st M
set_option maxRecDepth 100000 in
theorem e222_294 (X : aX) (la : aLs) (st : List aV) (M : aM) : go X 222 294 la st M = kC X 222 (i_ial X 295 la st M) := evC ((pm222 X 294).trans rfl) la st M
set_option maxRecDepth 100000 in
theorem e222_295 (X : aX) (la : aLs) (st : List aV) (M : aM) : go X 222 295 la st M = kC X 222 (i_lda 0 296 la st M) := evC ((pm222 X 295).trans rfl) la st M
set_option maxRecDepth 100000 in
theorem e222_296 (X : aX) (la : aLs) (st : List aV) (M : aM) : go X 222 296 la st M = kC X 222 (i_ldi 3 297 la st M) := evC ((pm222 X 296).trans rfl) la st M
set_option maxRecDepth 100000 in
theorem e222_297 (X : aX) (la : aLs) (st : List aV) (M : aM) : go X 222 297 la st M = kC X 222 (i_ci (nI 2) 298 la st M) := evC ((pm222 X 297).trans rfl) la st M
set_option maxRecDepth 100000 in
theorem e222_298 (X : aX) (la : aLs) (st : List aV) (M : aM) : go X 222 298 la st M = kC X 222 (i_bin (fun x y => x + y) 299 la st M) := evC ((pm222 X 298).trans rfl) la st M
set_option maxRecDepth 100000 in
theorem e222_299 (X : aX) (la : aLs) (st : List aV) (M : aM) : go X 222 299 la st M = kC X 222 (i_ial X 300 la st M) := evC ((pm222 X 299).trans rfl) la st M
set_option maxRecDepth 100000 in
theorem e222_300 (X : aX) (la : aLs) (st : List aV) (M : aM) : go X 222 300 la st M = kC X 222 (i_lda 0 301 la st M) := evC ((pm222 X 300).trans rfl) la st M
set_option maxRecDepth 100000 in
theorem e222_301 (X : aX) (la : aLs) (st : List aV) (M : aM) : go X 222 301 la st M = kC X 222 (i_ldi 3 302 la st M) := evC ((pm222 X 301).trans rfl) la st M
set_option maxRecDepth 100000 in
theorem e222_302 (X : aX) (la : aLs) (st : List aV) (M : aM) : go X 222 302 la st M = kC X 222 (i_ci (nI 3) 303 la st M) := evC ((pm222 X 302).trans rfl) la st M
set_option maxRecDepth 100000 in
theorem e222_303 (X : aX) (la : aLs) (st : List aV) (M : aM) : go X 222 303 la st M = kC X 222 (i_bin (fun x y => x + y) 304 la st M) := evC ((pm222 X 303).trans rfl) la st M
set_option maxRecDepth 100000 in
theorem e222_304 (X : aX) (la : aLs) (st : List aV) (M : aM) : go X 222 304 la st M = kC X 222 (i_ial X 305 la st M) := evC ((pm222 X 304).trans rfl) la st M
set_option maxRecDepth 100000 in
theorem e222_305 (X : aX) (la : aLs) (st : List aV) (M : aM) : go X 222 305 la st M = kK X 222 137 4 308 7 la st M := evK ((pm222 X 305).trans rfl) la st M
set_option maxRecDepth 100000 in
theorem e222_308 (X : aX) (la : aLs) (st : List aV) (M : aM) : go X 222 308 la st M = kC X 222 (i_cme 1322 311 la st M) := evC ((pm222 X 308).trans rfl) la st M
set_option maxRecDepth 100000 in
theorem e222_311 (X : aX) (la : aLs) (st : List aV) (M : aM) : go X 222 311 la st M = kC X 222 (i_ci (nI 0) 312 la st M) := evC ((pm222 X 311).trans rfl) la st M
set_option maxRecDepth 100000 in
theorem e222_312 (X : aX) (la : aLs) (st : List aV) (M : aM) : go X 222 312 la st M = i_zrt st M := evR ((pm222 X 312).trans rfl) la st M
set_option maxRecDepth 100000 in
theorem e222_313 (X : aX) (la : aLs) (st : List aV) (M : aM) : go X 222 313 la st M = kC X 222 (i_lda 1 314 la st M) := evC ((pm222 X 313).trans rfl) la st M
set_option maxRecDepth 100000 in
theorem e222_314 (X : aX) (la : aLs) (st : List aV) (M : aM) : go X 222 314 la st M = kC X 222 (i_lda 0 315 la st M) := evC ((pm222 X 314).trans rfl) la st M
set_option maxRecDepth 100000 in
theorem e222_315 (X : aX) (la : aLs) (st : List aV) (M : aM) : go X 222 315 la st M = kC X 222 (i_ldi 3 316 la st M) := evC ((pm222 X 315).trans rfl) la st M
set_option maxRecDepth 100000 in
theorem e222_316 (X : aX) (la : aLs) (st : List aV) (M : aM) : go X 222 316 la st M = kC X 222 (i_ci (nI 1) 317 la st M) := evC ((pm222 X 316).trans rfl) la st M
set_option maxRecDepth 100000 in
theorem e222_317 (X : aX) (la : aLs) (st : List aV) (M : aM) : go X 222 317 la st M = kC X 222 (i_bin (fun x y => x + y) 318 la st M) := evC ((pm222 X 317).trans rfl) la st M
set_option maxRecDepth 100000 in
theorem e222_318 (X : aX) (la : aLs) (st : List aV) (M : aM) : go X 222 318 la st M = kC X 222 (i_ial X 319 la st M) := evC ((pm222 X 318).trans rfl) la st M
set_option maxRecDepth 100000 in
theorem e222_319 (X : aX) (la : aLs) (st : List aV) (M : aM) : go X 222 319 la st M = kK X 222 65 2 322 6 la st M := evK ((pm222 X 319).trans rfl) la st M
set_option maxRecDepth 100000 in
theorem e222_322 (X : aX) (la : aLs) (st : List aV) (M : aM) : go X 222 322 la st M = kC X 222 (i_lda 2 323 la st M) := evC ((pm222 X 322).trans rfl) la st M
set_option maxRecDepth 100000 in
theorem e222_323 (X : aX) (la : aLs) (st : List aV) (M : aM) : go X 222 323 la st M = kC X 222 (i_lda 0 324 la st M) := evC ((pm222 X 323).trans rfl) la st M
set_option maxRecDepth 100000 in
theorem e222_324 (X : aX) (la : aLs) (st : List aV) (M : aM) : go X 222 324 la st M = kC X 222 (i_ldi 3 325 la st M) := evC ((pm222 X 324).trans rfl) la st M
set_option maxRecDepth 100000 in
theorem e222_325 (X : aX) (la : aLs) (st : List aV) (M : aM) : go X 222 325 la st M = kC X 222 (i_ci (nI 1) 326 la st M) := evC ((pm222 X 325).trans rfl) la st M
set_option maxRecDepth 100000 in
theorem e222_326 (X : aX) (la : aLs) (st : List aV) (M : aM) : go X 222 326 la st M = kC X 222 (i_bin (fun x y => x + y) 327 la st M) := evC ((pm222 X 326).trans rfl) la st M
set_option maxRecDepth 100000 in
theorem e222_327 (X : aX) (la : aLs) (st : List aV) (M : aM) : go X 222 327 la st M = kC X 222 (i_ial X 328 la st M) := evC ((pm222 X 327).trans rfl) la st M
set_option maxRecDepth 100000 in
theorem e222_328 (X : aX) (la : aLs) (st : List aV) (M : aM) : go X 222 328 la st M = kK X 222 138 2 331 7 la st M := evK ((pm222 X 328).trans rfl) la st M
set_option maxRecDepth 100000 in
theorem e222_331 (X : aX) (la : aLs) (st : List aV) (M : aM) : go X 222 331 la st M = kC X 222 (i_cme 1322 334 la st M) := evC ((pm222 X 331).trans rfl) la st M
set_option maxRecDepth 100000 in
theorem e222_334 (X : aX) (la : aLs) (st : List aV) (M : aM) : go X 222 334 la st M = kC X 222 (i_ci (nI 0) 335 la st M) := evC ((pm222 X 334).trans rfl) la st M
set_option maxRecDepth 100000 in
theorem e222_335 (X : aX) (la : aLs) (st : List aV) (M : aM) : go X 222 335 la st M = i_zrt st M := evR ((pm222 X 335).trans rfl) la st M
set_option maxRecDepth 100000 in
theorem e222_336 (X : aX) (la : aLs) (st : List aV) (M : aM) : go X 222 336 la st M = kC X 222 (i_lda 1 337 la st M) := evC ((pm222 X 336).trans rfl) la st M
set_option maxRecDepth 100000 in
theorem e222_337 (X : aX) (la : aLs) (st : List aV) (M : aM) : go X 222 337 la st M = kC X 222 (i_lda 0 338 la st M) := evC ((pm222 X 337).trans rfl) la st M
set_option maxRecDepth 100000 in
theorem e222_338 (X : aX) (la : aLs) (st : List aV) (M : aM) : go X 222 338 la st M = kC X 222 (i_ldi 3 339 la st M) := evC ((pm222 X 338).trans rfl) la st M
set_option maxRecDepth 100000 in
theorem e222_339 (X : aX) (la : aLs) (st : List aV) (M : aM) : go X 222 339 la st M = kC X 222 (i_ci (nI 1) 340 la st M) := evC ((pm222 X 339).trans rfl) la st M
set_option maxRecDepth 100000 in
theorem e222_340 (X : aX) (la : aLs) (st : List aV) (M : aM) : go X 222 340 la st M = kC X 222 (i_bin (fun x y => x + y) 341 la st M) := evC ((pm222 X 340).trans rfl) la st M
set_option maxRecDepth 100000 in
theorem e222_341 (X : aX) (la : aLs) (st : List aV) (M : aM) : go X 222 341 la st M = kC X 222 (i_ial X 342 la st M) := evC ((pm222 X 341).trans rfl) la st M
set_option maxRecDepth 100000 in
theorem e222_342 (X : aX) (la : aLs) (st : List aV) (M : aM) : go X 222 342 la st M = kK X 222 66 2 345 6 la st M := evK ((pm222 X 342).trans rfl) la st M
set_option maxRecDepth 100000 in
theorem e222_345 (X : aX) (la : aLs) (st : List aV) (M : aM) : go X 222 345 la st M = kC X 222 (i_lda 2 346 la st M) := evC ((pm222 X 345).trans rfl) la st M
set_option maxRecDepth 100000 in
theorem e222_346 (X : aX) (la : aLs) (st : List aV) (M : aM) : go X 222 346 la st M = kC X 222 (i_lda 0 347 la st M) := evC ((pm222 X 346).trans rfl) la st M
set_option maxRecDepth 100000 in
theorem e222_347 (X : aX) (la : aLs) (st : List aV) (M : aM) : go X 222 347 la st M = kC X 222 (i_ldi 3 348 la st M) := evC ((pm222 X 347).trans rfl) la st M
set_option maxRecDepth 100000 in
theorem e222_348 (X : aX) (la : aLs) (st : List aV) (M : aM) : go X 222 348 la st M = kC X 222 (i_ci (nI 1) 349 la st M) := evC ((pm222 X 348).trans rfl) la st M
set_option maxRecDepth 100000 in
theorem e222_349 (X : aX) (la : aLs) (st : List aV) (M : aM) : go X 222 349 la st M = kC X 222 (i_bin (fun x y => x + y) 350 la st M) := evC ((pm222 X 349).trans rfl) la st M
set_option maxRecDepth 100000 in
theorem e222_350 (X : aX) (la : aLs) (st : List aV) (M : aM) : go X 222 350 la st M = kC X 222 (i_ial X 351 la st M) := evC ((pm222 X 350).trans rfl) la st M
set_option maxRecDepth 100000 in
theorem e222_351 (X : aX) (la : aLs) (st : List aV) (M : aM) : go X 222 351 la st M = kK X 222 140 2 354 7 la st M := evK ((pm222 X 351).trans rfl) la st M
set_option maxRecDepth 100000 in
theorem e222_354 (X : aX) (la : aLs) (st : List aV) (M : aM) : go X 222 354 la st M = kC X 222 (i_cme 1322 357 la st M) := evC ((pm222 X 354).trans rfl) la st M
set_option maxRecDepth 100000 in
theorem e222_357 (X : aX) (la : aLs) (st : List aV) (M : aM) : go X 222 357 la st M = kC X 222 (i_ci (nI 0) 358 la st M) := evC ((pm222 X 357).trans rfl) la st M
set_option maxRecDepth 100000 in
theorem e222_358 (X : aX) (la : aLs) (st : List aV) (M : aM) : go X 222 358 la st M = i_zrt st M := evR ((pm222 X 358).trans rfl) la st M
set_option maxRecDepth 100000 in
theorem e222_359 (X : aX) (la : aLs) (st : List aV) (M : aM) : go X 222 359 la st M = kC X 222 (i_lda 1 360 la st M) := evC ((pm222 X 359).trans rfl) la st M
set_option maxRecDepth 100000 in
theorem e222_360 (X : aX) (la : aLs) (st : List aV) (M : aM) : go X 222 360 la st M = kC X 222 (i_lda 0 361 la st M) := evC ((pm222 X 360).trans rfl) la st M
set_option maxRecDepth 100000 in
theorem e222_361 (X : aX) (la : aLs) (st : List aV) (M : aM) : go X 222 361 la st M = kC X 222 (i_ldi 3 362 la st M) := evC ((pm222 X 361).trans rfl) la st M
set_option maxRecDepth 100000 in
theorem e222_362 (X : aX) (la : aLs) (st : List aV) (M : aM) : go X 222 362 la st M = kC X 222 (i_ci (nI 1) 363 la st M) := evC ((pm222 X 362).trans rfl) la st M
set_option maxRecDepth 100000 in
theorem e222_363 (X : aX) (la : aLs) (st : List aV) (M : aM) : go X 222 363 la st M = kC X 222 (i_bin (fun x y => x + y) 364 la st M) := evC ((pm222 X 363).trans rfl) la st M
set_option maxRecDepth 100000 in
theorem e222_364 (X : aX) (la : aLs) (st : List aV) (M : aM) : go X 222 364 la st M = kC X 222 (i_ial X 365 la st M) := evC ((pm222 X 364).trans rfl) la st M
set_option maxRecDepth 100000 in
theorem e222_365 (X : aX) (la : aLs) (st : List aV) (M : aM) : go X 222 365 la st M = kK X 222 67 2 368 6 la st M := evK ((pm222 X 365).trans rfl) la st M
set_option maxRecDepth 100000 in
theorem e222_368 (X : aX) (la : aLs) (st : List aV) (M : aM) : go X 222 368 la st M = kC X 222 (i_lda 2 369 la st M) := evC ((pm222 X 368).trans rfl) la st M
set_option maxRecDepth 100000 in
theorem e222_369 (X : aX) (la : aLs) (st : List aV) (M : aM) : go X 222 369 la st M = kC X 222 (i_lda 0 370 la st M) := evC ((pm222 X 369).trans rfl) la st M
set_option maxRecDepth 100000 in
theorem e222_370 (X : aX) (la : aLs) (st : List aV) (M : aM) : go X 222 370 la st M = kC X 222 (i_ldi 3 371 la st M) := evC ((pm222 X 370).trans rfl) la st M
set_option maxRecDepth 100000 in
theorem e222_371 (X : aX) (la : aLs) (st : List aV) (M : aM) : go X 222 371 la st M = kC X 222 (i_ci (nI 1) 372 la st M) := evC ((pm222 X 371).trans rfl) la st M
set_option maxRecDepth 100000 in
theorem e222_372 (X : aX) (la : aLs) (st : List aV) (M : aM) : go X 222 372 la st M = kC X 222 (i_bin (fun x y => x + y) 373 la st M) := evC ((pm222 X 372).trans rfl) la st M
set_option maxRecDepth 100000 in
theorem e222_373 (X : aX) (la : aLs) (st : List aV) (M : aM) : go X 222 373 la st M = kC X 222 (i_ial X 374 la st M) := evC ((pm222 X 373).trans rfl) la st M
set_option maxRecDepth 100000 in
theorem e222_374 (X : aX) (la : aLs) (st : List aV) (M : aM) : go X 222 374 la st M = kK X 222 149 2 377 7 la st M := evK ((pm222 X 374).trans rfl) la st M
set_option maxRecDepth 100000 in
theorem e222_377 (X : aX) (la : aLs) (st : List aV) (M : aM) : go X 222 377 la st M = kC X 222 (i_cme 1322 380 la st M) := evC ((pm222 X 377).trans rfl) la st M
set_option maxRecDepth 100000 in
theorem e222_380 (X : aX) (la : aLs) (st : List aV) (M : aM) : go X 222 380 la st M = kC X 222 (i_ci (nI 0) 381 la st M) := evC ((pm222 X 380).trans rfl) la st M
set_option maxRecDepth 100000 in
theorem e222_381 (X : aX) (la : aLs) (st : List aV) (M : aM) : go X 222 381 la st M = i_zrt st M := evR ((pm222 X 381).trans rfl) la st M
set_option maxRecDepth 100000 in
theorem e222_382 (X : aX) (la : aLs) (st : List aV) (M : aM) : go X 222 382 la st M = kC X 222 (i_lda 1 383 la st M) := evC ((pm222 X 382).trans rfl) la st M
set_option maxRecDepth 100000 in
theorem e222_383 (X : aX) (la : aLs) (st : List aV) (M : aM) : go X 222 383 la st M = kC X 222 (i_lda 0 384 la st M) := evC ((pm222 X 383).trans rfl) la st M
set_option maxRecDepth 100000 in
theorem e222_384 (X : aX) (la : aLs) (st : List aV) (M : aM) : go X 222 384 la st M = kC X 222 (i_ldi 3 385 la st M) := evC ((pm222 X 384).trans rfl) la st M
set_option maxRecDepth 100000 in
theorem e222_385 (X : aX) (la : aLs) (st : List aV) (M : aM) : go X 222 385 la st M = kC X 222 (i_ci (nI 1) 386 la st M) := evC ((pm222 X 385).trans rfl) la st M
set_option maxRecDepth 100000 in
theorem e222_386 (X : aX) (la : aLs) (st : List aV) (M : aM) : go X 222 386 la st M = kC X 222 (i_bin (fun x y => x + y) 387 la st M) := evC ((pm222 X 386).trans rfl) la st M
set_option maxRecDepth 100000 in
theorem e222_387 (X : aX) (la : aLs) (st : List aV) (M : aM) : go X 222 387 la st M = kC X 222 (i_ial X 388 la st M) := evC ((pm222 X 387).trans rfl) la st M
set_option maxRecDepth 100000 in
theorem e222_388 (X : aX) (la : aLs) (st : List aV) (M : aM) : go X 222 388 la st M = kK X 222 68 2 391 6 la st M := evK ((pm222 X 388).trans rfl) la st M
set_option maxRecDepth 100000 in
theorem e222_391 (X : aX) (la : aLs) (st : List aV) (M : aM) : go X 222 391 la st M = kC X 222 (i_lda 2 392 la st M) := evC ((pm222 X 391).trans rfl) la st M
set_option maxRecDepth 100000 in
theorem e222_392 (X : aX) (la : aLs) (st : List aV) (M : aM) : go X 222 392 la st M = kC X 222 (i_lda 0 393 la st M) := evC ((pm222 X 392).trans rfl) la st M
set_option maxRecDepth 100000 in
theorem e222_393 (X : aX) (la : aLs) (st : List aV) (M : aM) : go X 222 393 la st M = kC X 222 (i_ldi 3 394 la st M) := evC ((pm222 X 393).trans rfl) la st M
set_option maxRecDepth 100000 in
theorem e222_394 (X : aX) (la : aLs) (st : List aV) (M : aM) : go X 222 394 la st M = kC X 222 (i_ci (nI 1) 395 la st M) := evC ((pm222 X 394).trans rfl) la st M
set_option maxRecDepth 100000 in
theorem e222_395 (X : aX) (la : aLs) (st : List aV) (M : aM) : go X 222 395 la st M = kC X 222 (i_bin (fun x y => x + y) 396 la st M) := evC ((pm222 X 395).trans rfl) la st M
set_option maxRecDepth 100000 in
theorem e222_396 (X : aX) (la : aLs) (st : List aV) (M : aM) : go X 222 396 la st M = kC X 222 (i_ial X 397 la st M) := evC ((pm222 X 396).trans rfl) la st M
set_option maxRecDepth 100000 in
theorem e222_397 (X : aX) (la : aLs) (st : List aV) (M : aM) : go X 222 397 la st M = kK X 222 153 2 400 7 la st M := evK ((pm222 X 397).trans rfl) la st M
set_option maxRecDepth 100000 in
theorem e222_400 (X : aX) (la : aLs) (st : List aV) (M : aM) : go X 222 400 la st M = kC X 222 (i_cme 1322 403 la st M) := evC ((pm222 X 400).trans rfl) la st M
set_option maxRecDepth 100000 in
theorem e222_403 (X : aX) (la : aLs) (st : List aV) (M : aM) : go X 222 403 la st M = kC X 222 (i_ci (nI 0) 404 la st M) := evC ((pm222 X 403).trans rfl) la st M
set_option maxRecDepth 100000 in
theorem e222_404 (X : aX) (la : aLs) (st : List aV) (M : aM) : go X 222 404 la st M = i_zrt st M := evR ((pm222 X 404).trans rfl) la st M
set_option maxRecDepth 100000 in
theorem e222_405 (X : aX) (la : aLs) (st : List aV) (M : aM) : go X 222 405 la st M = kC X 222 (i_lda 1 406 la st M) := evC ((pm222 X 405).trans rfl) la st M
set_option maxRecDepth 100000 in
theorem e222_406 (X : aX) (la : aLs) (st : List aV) (M : aM) : go X 222 406 la st M = kC X 222 (i_lda 0 407 la st M) := evC ((pm222 X 406).trans rfl) la st M
set_option maxRecDepth 100000 in
theorem e222_407 (X : aX) (la : aLs) (st : List aV) (M : aM) : go X 222 407 la st M = kC X 222 (i_ldi 3 408 la st M) := evC ((pm222 X 407).trans rfl) la st M
set_option maxRecDepth 100000 in
theorem e222_408 (X : aX) (la : aLs) (st : List aV) (M : aM) : go X 222 408 la st M = kC X 222 (i_ci (nI 1) 409 la st M) := evC ((pm222 X 408).trans rfl) la st M
set_option maxRecDepth 100000 in
theorem e222_409 (X : aX) (la : aLs) (st : List aV) (M : aM) : go X 222 409 la st M = kC X 222 (i_bin (fun x y => x + y) 410 la st M) := evC ((pm222 X 409).trans rfl) la st M
set_option maxRecDepth 100000 in
theorem e222_410 (X : aX) (la : aLs) (st : List aV) (M : aM) : go X 222 410 la st M = kC X 222 (i_ial X 411 la st M) := evC ((pm222 X 410).trans rfl) la st M
set_option maxRecDepth 100000 in
theorem e222_411 (X : aX) (la : aLs) (st : List aV) (M : aM) : go X 222 411 la st M = kC X 222 (i_lda 0 412 la st M) := evC ((pm222 X 411).trans rfl) la st M
set_option maxRecDepth 100000 in
theorem e222_412 (X : aX) (la : aLs) (st : List aV) (M : aM) : go X 222 412 la st M = kC X 222 (i_ldi 3 413 la st M) := evC ((pm222 X 412).trans rfl) la st M
set_option maxRecDepth 100000 in
theorem e222_413 (X : aX) (la : aLs) (st : List aV) (M : aM) : go X 222 413 la st M = kC X 222 (i_ci (nI 2) 414 la st M) := evC ((pm222 X 413).trans rfl) la st M
set_option maxRecDepth 100000 in
theorem e222_414 (X : aX) (la : aLs) (st : List aV) (M : aM) : go X 222 414 la st M = kC X 222 (i_bin (fun x y => x + y) 415 la st M) := evC ((pm222 X 414).trans rfl) la st M
set_option maxRecDepth 100000 in
theorem e222_415 (X : aX) (la : aLs) (st : List aV) (M : aM) : go X 222 415 la st M = kC X 222 (i_ial X 416 la st M) := evC ((pm222 X 415).trans rfl) la st M
set_option maxRecDepth 100000 in
theorem e222_416 (X : aX) (la : aLs) (st : List aV) (M : aM) : go X 222 416 la st M = kC X 222 (i_lda 0 417 la st M) := evC ((pm222 X 416).trans rfl) la st M
set_option maxRecDepth 100000 in
theorem e222_417 (X : aX) (la : aLs) (st : List aV) (M : aM) : go X 222 417 la st M = kC X 222 (i_ldi 3 418 la st M) := evC ((pm222 X 417).trans rfl) la st M
set_option maxRecDepth 100000 in
theorem e222_418 (X : aX) (la : aLs) (st : List aV) (M : aM) : go X 222 418 la st M = kC X 222 (i_ci (nI 3) 419 la st M) := evC ((pm222 X 418).trans rfl) la st M
set_option maxRecDepth 100000 in
theorem e222_419 (X : aX) (la : aLs) (st : List aV) (M : aM) : go X 222 419 la st M = kC X 222 (i_bin (fun x y => x + y) 420 la st M) := evC ((pm222 X 419).trans rfl) la st M
set_option maxRecDepth 100000 in
theorem e222_420 (X : aX) (la : aLs) (st : List aV) (M : aM) : go X 222 420 la st M = kC X 222 (i_ial X 421 la st M) := evC ((pm222 X 420).trans rfl) la st M
set_option maxRecDepth 100000 in
theorem e222_421 (X : aX) (la : aLs) (st : List aV) (M : aM) : go X 222 421 la st M = kK X 222 69 4 424 6 la st M := evK ((pm222 X 421).trans rfl) la st M
set_option maxRecDepth 100000 in
theorem e222_424 (X : aX) (la : aLs) (st : List aV) (M : aM) : go X 222 424 la st M = kC X 222 (i_lda 2 425 la st M) := evC ((pm222 X 424).trans rfl) la st M
set_option maxRecDepth 100000 in
theorem e222_425 (X : aX) (la : aLs) (st : List aV) (M : aM) : go X 222 425 la st M = kC X 222 (i_lda 0 426 la st M) := evC ((pm222 X 425).trans rfl) la st M
set_option maxRecDepth 100000 in
theorem e222_426 (X : aX) (la : aLs) (st : List aV) (M : aM) : go X 222 426 la st M = kC X 222 (i_ldi 3 427 la st M) := evC ((pm222 X 426).trans rfl) la st M
set_option maxRecDepth 100000 in
theorem e222_427 (X : aX) (la : aLs) (st : List aV) (M : aM) : go X 222 427 la st M = kC X 222 (i_ci (nI 1) 428 la st M) := evC ((pm222 X 427).trans rfl) la st M
set_option maxRecDepth 100000 in
theorem e222_428 (X : aX) (la : aLs) (st : List aV) (M : aM) : go X 222 428 la st M = kC X 222 (i_bin (fun x y => x + y) 429 la st M) := evC ((pm222 X 428).trans rfl) la st M
set_option maxRecDepth 100000 in
theorem e222_429 (X : aX) (la : aLs) (st : List aV) (M : aM) : go X 222 429 la st M = kC X 222 (i_ial X 430 la st M) := evC ((pm222 X 429).trans rfl) la st M
set_option maxRecDepth 100000 in
theorem e222_430 (X : aX) (la : aLs) (st : List aV) (M : aM) : go X 222 430 la st M = kC X 222 (i_lda 0 431 la st M) := evC ((pm222 X 430).trans rfl) la st M
set_option maxRecDepth 100000 in
theorem e222_431 (X : aX) (la : aLs) (st : List aV) (M : aM) : go X 222 431 la st M = kC X 222 (i_ldi 3 432 la st M) := evC ((pm222 X 431).trans rfl) la st M
set_option maxRecDepth 100000 in
theorem e222_432 (X : aX) (la : aLs) (st : List aV) (M : aM) : go X 222 432 la st M = kC X 222 (i_ci (nI 2) 433 la st M) := evC ((pm222 X 432).trans rfl) la st M
set_option maxRecDepth 100000 in
theorem e222_433 (X : aX) (la : aLs) (st : List aV) (M : aM) : go X 222 433 la st M = kC X 222 (i_bin (fun x y => x + y) 434 la st M) := evC ((pm222 X 433).trans rfl) la st M
set_option maxRecDepth 100000 in
theorem e222_434 (X : aX) (la : aLs) (st : List aV) (M : aM) : go X 222 434 la st M = kC X 222 (i_ial X 435 la st M) := evC ((pm222 X 434).trans rfl) la st M
set_option maxRecDepth 100000 in
theorem e222_435 (X : aX) (la : aLs) (st : List aV) (M : aM) : go X 222 435 la st M = kC X 222 (i_lda 0 436 la st M) := evC ((pm222 X 435).trans rfl) la st M
set_option maxRecDepth 100000 in
theorem e222_436 (X : aX) (la : aLs) (st : List aV) (M : aM) : go X 222 436 la st M = kC X 222 (i_ldi 3 437 la st M) := evC ((pm222 X 436).trans rfl) la st M
set_option maxRecDepth 100000 in
theorem e222_437 (X : aX) (la : aLs) (st : List aV) (M : aM) : go X 222 437 la st M = kC X 222 (i_ci (nI 3) 438 la st M) := evC ((pm222 X 437).trans rfl) la st M
set_option maxRecDepth 100000 in
theorem e222_438 (X : aX) (la : aLs) (st : List aV) (M : aM) : go X 222 438 la st M = kC X 222 (i_bin (fun x y => x + y) 439 la st M) := evC ((pm222 X 438).trans rfl) la st M
set_option maxRecDepth 100000 in
theorem e222_439 (X : aX) (la : aLs) (st : List aV) (M : aM) : go X 222 439 la st M = kC X 222 (i_ial X 440 la st M) := evC ((pm222 X 439).trans rfl) la st M
set_option maxRecDepth 100000 in
theorem e222_440 (X : aX) (la : aLs) (st : List aV) (M : aM) : go X 222 440 la st M = kK X 222 156 4 443 7 la st M := evK ((pm222 X 440).trans rfl) la st M
set_option maxRecDepth 100000 in
theorem e222_443 (X : aX) (la : aLs) (st : List aV) (M : aM) : go X 222 443 la st M = kC X 222 (i_cme 1322 446 la st M) := evC ((pm222 X 443).trans rfl) la st M
set_option maxRecDepth 100000 in
theorem e222_446 (X : aX) (la : aLs) (st : List aV) (M : aM) : go X 222 446 la st M = kC X 222 (i_ci (nI 0) 447 la st M) := evC ((pm222 X 446).trans rfl) la st M
set_option maxRecDepth 100000 in
theorem e222_447 (X : aX) (la : aLs) (st : List aV) (M : aM) : go X 222 447 la st M = i_zrt st M := evR ((pm222 X 447).trans rfl) la st M
set_option maxRecDepth 100000 in
theorem e222_448 (X : aX) (la : aLs) (st : List aV) (M : aM) : go X 222 448 la st M = kC X 222 (i_lda 1 449 la st M) := evC ((pm222 X 448).trans rfl) la st M
set_option maxRecDepth 100000 in
theorem e222_449 (X : aX) (la : aLs) (st : List aV) (M : aM) : go X 222 449 la st M = kC X 222 (i_lda 0 450 la st M) := evC ((pm222 X 449).trans rfl) la st M
set_option maxRecDepth 100000 in
theorem e222_450 (X : aX) (la : aLs) (st : List aV) (M : aM) : go X 222 450 la st M = kC X 222 (i_ldi 3 451 la st M) := evC ((pm222 X 450).trans rfl) la st M
set_option maxRecDepth 100000 in
theorem e222_451 (X : aX) (la : aLs) (st : List aV) (M : aM) : go X 222 451 la st M = kC X 222 (i_ci (nI 1) 452 la st M) := evC ((pm222 X 451).trans rfl) la st M
set_option maxRecDepth 100000 in
theorem e222_452 (X : aX) (la : aLs) (st : List aV) (M : aM) : go X 222 452 la st M = kC X 222 (i_bin (fun x y => x + y) 453 la st M) := evC ((pm222 X 452).trans rfl) la st M
set_option maxRecDepth 100000 in
theorem e222_453 (X : aX) (la : aLs) (st : List aV) (M : aM) : go X 222 453 la st M = kC X 222 (i_ial X 454 la st M) := evC ((pm222 X 453).trans rfl) la st M
set_option maxRecDepth 100000 in
theorem e222_454 (X : aX) (la : aLs) (st : List aV) (M : aM) : go X 222 454 la st M = kK X 222 70 2 457 6 la st M := evK ((pm222 X 454).trans rfl) la st M
set_option maxRecDepth 100000 in
theorem e222_457 (X : aX) (la : aLs) (st : List aV) (M : aM) : go X 222 457 la st M = kC X 222 (i_lda 2 458 la st M) := evC ((pm222 X 457).trans rfl) la st M
set_option maxRecDepth 100000 in
theorem e222_458 (X : aX) (la : aLs) (st : List aV) (M : aM) : go X 222 458 la st M = kC X 222 (i_lda 0 459 la st M) := evC ((pm222 X 458).trans rfl) la st M
set_option maxRecDepth 100000 in
theorem e222_459 (X : aX) (la : aLs) (st : List aV) (M : aM) : go X 222 459 la st M = kC X 222 (i_ldi 3 460 la st M) := evC ((pm222 X 459).trans rfl) la st M
set_option maxRecDepth 100000 in
theorem e222_460 (X : aX) (la : aLs) (st : List aV) (M : aM) : go X 222 460 la st M = kC X 222 (i_ci (nI 1) 461 la st M) := evC ((pm222 X 460).trans rfl) la st M
set_option maxRecDepth 100000 in
theorem e222_461 (X : aX) (la : aLs) (st : List aV) (M : aM) : go X 222 461 la st M = kC X 222 (i_bin (fun x y => x + y) 462 la st M) := evC ((pm222 X 461).trans rfl) la st M
set_option maxRecDepth 100000 in
theorem e222_462 (X : aX) (la : aLs) (st : List aV) (M : aM) : go X 222 462 la st M = kC X 222 (i_ial X 463 la st M) := evC ((pm222 X 462).trans rfl) la st M
set_option maxRecDepth 100000 in
theorem e222_463 (X : aX) (la : aLs) (st : List aV) (M : aM) : go X 222 463 la st M = kK X 222 158 2 466 7 la st M := evK ((pm222 X 463).trans rfl) la st M
set_option maxRecDepth 100000 in
theorem e222_466 (X : aX) (la : aLs) (st : List aV) (M : aM) : go X 222 466 la st M = kC X 222 (i_cme 1322 469 la st M) := evC ((pm222 X 466).trans rfl) la st M
set_option maxRecDepth 100000 in
theorem e222_469 (X : aX) (la : aLs) (st : List aV) (M : aM) : go X 222 469 la st M = kC X 222 (i_ci (nI 0) 470 la st M) := evC ((pm222 X 469).trans rfl) la st M
set_option maxRecDepth 100000 in
theorem e222_470 (X : aX) (la : aLs) (st : List aV) (M : aM) : go X 222 470 la st M = i_zrt st M := evR ((pm222 X 470).trans rfl) la st M
set_option maxRecDepth 100000 in
theorem e222_471 (X : aX) (la : aLs) (st : List aV) (M : aM) : go X 222 471 la st M = kC X 222 (i_lda 1 472 la st M) := evC ((pm222 X 471).trans rfl) la st M
set_option maxRecDepth 100000 in
theorem e222_472 (X : aX) (la : aLs) (st : List aV) (M : aM) : go X 222 472 la st M = kC X 222 (i_lda 0 473 la st M) := evC ((pm222 X 472).trans rfl) la st M
set_option maxRecDepth 100000 in
theorem e222_473 (X : aX) (la : aLs) (st : List aV) (M : aM) : go X 222 473 la st M = kC X 222 (i_ldi 3 474 la st M) := evC ((pm222 X 473).trans rfl) la st M
set_option maxRecDepth 100000 in
theorem e222_474 (X : aX) (la : aLs) (st : List aV) (M : aM) : go X 222 474 la st M = kC X 222 (i_ci (nI 1) 475 la st M) := evC ((pm222 X 474).trans rfl) la st M
set_option maxRecDepth 100000 in
theorem e222_475 (X : aX) (la : aLs) (st : List aV) (M : aM) : go X 222 475 la st M = kC X 222 (i_bin (fun x y => x + y) 476 la st M) := evC ((pm222 X 475).trans rfl) la st M
set_option maxRecDepth 100000 in
theorem e222_476 (X : aX) (la : aLs) (st : List aV) (M : aM) : go X 222 476 la st M = kC X 222 (i_ial X 477 la st M) := evC ((pm222 X 476).trans rfl) la st M
set_option maxRecDepth 100000 in
theorem e222_477 (X : aX) (la : aLs) (st : List aV) (M : aM) : go X 222 477 la st M = kC X 222 (i_lda 0 478 la st M) := evC ((pm222 X 477).trans rfl) la st M
set_option maxRecDepth 100000 in
theorem e222_478 (X : aX) (la : aLs) (st : List aV) (M : aM) : go X 222 478 la st M = kC X 222 (i_ldi 3 479 la st M) := evC ((pm222 X 478).trans rfl) la st M
set_option maxRecDepth 100000 in
theorem e222_479 (X : aX) (la : aLs) (st : List aV) (M : aM) : go X 222 479 la st M = kC X 222 (i_ci (nI 2) 480 la st M) := evC ((pm222 X 479).trans rfl) la st M
set_option maxRecDepth 100000 in
theorem e222_480 (X : aX) (la : aLs) (st : List aV) (M : aM) : go X 222 480 la st M = kC X 222 (i_bin (fun x y => x + y) 481 la st M) := evC ((pm222 X 480).trans rfl) la st M
set_option maxRecDepth 100000 in
theorem e222_481 (X : aX) (la : aLs) (st : List aV) (M : aM) : go X 222 481 la st M = kC X 222 (i_ial X 482 la st M) := evC ((pm222 X 481).trans rfl) la st M
set_option maxRecDepth 100000 in
theorem e222_482 (X : aX) (la : aLs) (st : List aV) (M : aM) : go X 222 482 la st M = kK X 222 71 3 485 6 la st M := evK ((pm222 X 482).trans rfl) la st M
set_option maxRecDepth 100000 in
theorem e222_485 (X : aX) (la : aLs) (st : List aV) (M : aM) : go X 222 485 la st M = kC X 222 (i_lda 2 486 la st M) := evC ((pm222 X 485).trans rfl) la st M
set_option maxRecDepth 100000 in
theorem e222_486 (X : aX) (la : aLs) (st : List aV) (M : aM) : go X 222 486 la st M = kC X 222 (i_lda 0 487 la st M) := evC ((pm222 X 486).trans rfl) la st M
set_option maxRecDepth 100000 in
theorem e222_487 (X : aX) (la : aLs) (st : List aV) (M : aM) : go X 222 487 la st M = kC X 222 (i_ldi 3 488 la st M) := evC ((pm222 X 487).trans rfl) la st M
set_option maxRecDepth 100000 in
theorem e222_488 (X : aX) (la : aLs) (st : List aV) (M : aM) : go X 222 488 la st M = kC X 222 (i_ci (nI 1) 489 la st M) := evC ((pm222 X 488).trans rfl) la st M
set_option maxRecDepth 100000 in
theorem e222_489 (X : aX) (la : aLs) (st : List aV) (M : aM) : go X 222 489 la st M = kC X 222 (i_bin (fun x y => x + y) 490 la st M) := evC ((pm222 X 489).trans rfl) la st M
set_option maxRecDepth 100000 in
theorem e222_490 (X : aX) (la : aLs) (st : List aV) (M : aM) : go X 222 490 la st M = kC X 222 (i_ial X 491 la st M) := evC ((pm222 X 490).trans rfl) la st M
set_option maxRecDepth 100000 in
theorem e222_491 (X : aX) (la : aLs) (st : List aV) (M : aM) : go X 222 491 la st M = kC X 222 (i_lda 0 492 la st M) := evC ((pm222 X 491).trans rfl) la st M
set_option maxRecDepth 100000 in
theorem e222_492 (X : aX) (la : aLs) (st : List aV) (M : aM) : go X 222 492 la st M = kC X 222 (i_ldi 3 493 la st M) := evC ((pm222 X 492).trans rfl) la st M
set_option maxRecDepth 100000 in
theorem e222_493 (X : aX) (la : aLs) (st : List aV) (M : aM) : go X 222 493 la st M = kC X 222 (i_ci (nI 2) 494 la st M) := evC ((pm222 X 493).trans rfl) la st M
set_option maxRecDepth 100000 in
theorem e222_494 (X : aX) (la : aLs) (st : List aV) (M : aM) : go X 222 494 la st M = kC X 222 (i_bin (fun x y => x + y) 495 la st M) := evC ((pm222 X 494).trans rfl) la st M
set_option maxRecDepth 100000 in
theorem e222_495 (X : aX) (la : aLs) (st : List aV) (M : aM) : go X 222 495 la st M = kC X 222 (i_ial X 496 la st M) := evC ((pm222 X 495).trans rfl) la st M
set_option maxRecDepth 100000 in
theorem e222_496 (X : aX) (la : aLs) (st : List aV) (M : aM) : go X 222 496 la st M = kK X 222 159 3 499 7 la st M := evK ((pm222 X 496).trans rfl) la st M
set_option maxRecDepth 100000 in
theorem e222_499 (X : aX) (la : aLs) (st : List aV) (M : aM) : go X 222 499 la st M = kC X 222 (i_cme 1322 502 la st M) := evC ((pm222 X 499).trans rfl) la st M
set_option maxRecDepth 100000 in
theorem e222_502 (X : aX) (la : aLs) (st : List aV) (M : aM) : go X 222 502 la st M = kC X 222 (i_ci (nI 0) 503 la st M) := evC ((pm222 X 502).trans rfl) la st M
set_option maxRecDepth 100000 in
theorem e222_503 (X : aX) (la : aLs) (st : List aV) (M : aM) : go X 222 503 la st M = i_zrt st M := evR ((pm222 X 503).trans rfl) la st M
set_option maxRecDepth 100000 in
theorem e222_504 (X : aX) (la : aLs) (st : List aV) (M : aM) : go X 222 504 la st M = kC X 222 (i_lda 1 505 la st M) := evC ((pm222 X 504).trans rfl) la st M
set_option maxRecDepth 100000 in
theorem e222_505 (X : aX) (la : aLs) (st : List aV) (M : aM) : go X 222 505 la st M = kC X 222 (i_lda 0 506 la st M) := evC ((pm222 X 505).trans rfl) la st M
set_option maxRecDepth 100000 in
theorem e222_506 (X : aX) (la : aLs) (st : List aV) (M : aM) : go X 222 506 la st M = kC X 222 (i_ldi 3 507 la st M) := evC ((pm222 X 506).trans rfl) la st M
set_option maxRecDepth 100000 in
theorem e222_507 (X : aX) (la : aLs) (st : List aV) (M : aM) : go X 222 507 la st M = kC X 222 (i_ci (nI 1) 508 la st M) := evC ((pm222 X 507).trans rfl) la st M
set_option maxRecDepth 100000 in
theorem e222_508 (X : aX) (la : aLs) (st : List aV) (M : aM) : go X 222 508 la st M = kC X 222 (i_bin (fun x y => x + y) 509 la st M) := evC ((pm222 X 508).trans rfl) la st M
set_option maxRecDepth 100000 in
theorem e222_509 (X : aX) (la : aLs) (st : List aV) (M : aM) : go X 222 509 la st M = kC X 222 (i_ial X 510 la st M) := evC ((pm222 X 509).trans rfl) la st M
set_option maxRecDepth 100000 in
theorem e222_510 (X : aX) (la : aLs) (st : List aV) (M : aM) : go X 222 510 la st M = kK X 222 72 2 513 6 la st M := evK ((pm222 X 510).trans rfl) la st M
set_option maxRecDepth 100000 in
theorem e222_513 (X : aX) (la : aLs) (st : List aV) (M : aM) : go X 222 513 la st M = kC X 222 (i_lda 2 514 la st M) := evC ((pm222 X 513).trans rfl) la st M
set_option maxRecDepth 100000 in
theorem e222_514 (X : aX) (la : aLs) (st : List aV) (M : aM) : go X 222 514 la st M = kC X 222 (i_lda 0 515 la st M) := evC ((pm222 X 514).trans rfl) la st M
set_option maxRecDepth 100000 in
theorem e222_515 (X : aX) (la : aLs) (st : List aV) (M : aM) : go X 222 515 la st M = kC X 222 (i_ldi 3 516 la st M) := evC ((pm222 X 515).trans rfl) la st M
set_option maxRecDepth 100000 in
theorem e222_516 (X : aX) (la : aLs) (st : List aV) (M : aM) : go X 222 516 la st M = kC X 222 (i_ci (nI 1) 517 la st M) := evC ((pm222 X 516).trans rfl) la st M
set_option maxRecDepth 100000 in
theorem e222_517 (X : aX) (la : aLs) (st : List aV) (M : aM) : go X 222 517 la st M = kC X 222 (i_bin (fun x y => x + y) 518 la st M) := evC ((pm222 X 517).trans rfl) la st M
set_option maxRecDepth 100000 in
theorem e222_518 (X : aX) (la : aLs) (st : List aV) (M : aM) : go X 222 518 la st M = kC X 222 (i_ial X 519 la st M) := evC ((pm222 X 518).trans rfl) la st M
set_option maxRecDepth 100000 in
theorem e222_519 (X : aX) (la : aLs) (st : List aV) (M : aM) : go X 222 519 la st M = kK X 222 161 2 522 7 la st M := evK ((pm222 X 519).trans rfl) la st M
set_option maxRecDepth 100000 in
theorem e222_522 (X : aX) (la : aLs) (st : List aV) (M : aM) : go X 222 522 la st M = kC X 222 (i_cme 1322 525 la st M) := evC ((pm222 X 522).trans rfl) la st M
set_option maxRecDepth 100000 in
theorem e222_525 (X : aX) (la : aLs) (st : List aV) (M : aM) : go X 222 525 la st M = kC X 222 (i_ci (nI 0) 526 la st M) := evC ((pm222 X 525).trans rfl) la st M
set_option maxRecDepth 100000 in
theorem e222_526 (X : aX) (la : aLs) (st : List aV) (M : aM) : go X 222 526 la st M = i_zrt st M := evR ((pm222 X 526).trans rfl) la st M
set_option maxRecDepth 100000 in
theorem e222_527 (X : aX) (la : aLs) (st : List aV) (M : aM) : go X 222 527 la st M = kC X 222 (i_lda 1 528 la st M) := evC ((pm222 X 527).trans rfl) la st M
set_option maxRecDepth 100000 in
theorem e222_528 (X : aX) (la : aLs) (st : List aV) (M : aM) : go X 222 528 la st M = kC X 222 (i_lda 0 529 la st M) := evC ((pm222 X 528).trans rfl) la st M
set_option maxRecDepth 100000 in
theorem e222_529 (X : aX) (la : aLs) (st : List aV) (M : aM) : go X 222 529 la st M = kC X 222 (i_ldi 3 530 la st M) := evC ((pm222 X 529).trans rfl) la st M
set_option maxRecDepth 100000 in
theorem e222_530 (X : aX) (la : aLs) (st : List aV) (M : aM) : go X 222 530 la st M = kC X 222 (i_ci (nI 1) 531 la st M) := evC ((pm222 X 530).trans rfl) la st M
set_option maxRecDepth 100000 in
theorem e222_531 (X : aX) (la : aLs) (st : List aV) (M : aM) : go X 222 531 la st M = kC X 222 (i_bin (fun x y => x + y) 532 la st M) := evC ((pm222 X 531).trans rfl) la st M
set_option maxRecDepth 100000 in
theorem e222_532 (X : aX) (la : aLs) (st : List aV) (M : aM) : go X 222 532 la st M = kC X 222 (i_ial X 533 la st M) := evC ((pm222 X 532).trans rfl) la st M
set_option maxRecDepth 100000 in
theorem e222_533 (X : aX) (la : aLs) (st : List aV) (M : aM) : go X 222 533 la st M = kC X 222 (i_lda 0 534 la st M) := evC ((pm222 X 533).trans rfl) la st M
set_option maxRecDepth 100000 in
theorem e222_534 (X : aX) (la : aLs) (st : List aV) (M : aM) : go X 222 534 la st M = kC X 222 (i_ldi 3 535 la st M) := evC ((pm222 X 534).trans rfl) la st M
set_option maxRecDepth 100000 in
theorem e222_535 (X : aX) (la : aLs) (st : List aV) (M : aM) : go X 222 535 la st M = kC X 222 (i_ci (nI 2) 536 la st M) := evC ((pm222 X 535).trans rfl) la st M
set_option maxRecDepth 100000 in
theorem e222_536 (X : aX) (la : aLs) (st : List aV) (M : aM) : go X 222 536 la st M = kC X 222 (i_bin (fun x y => x + y) 537 la st M) := evC ((pm222 X 536).trans rfl) la st M
set_option maxRecDepth 100000 in
theorem e222_537 (X : aX) (la : aLs) (st : List aV) (M : aM) : go X 222 537 la st M = kC X 222 (i_ial X 538 la st M) := evC ((pm222 X 537).trans rfl) la st M
set_option maxRecDepth 100000 in
theorem e222_538 (X : aX) (la : aLs) (st : List aV) (M : aM) : go X 222 538 la st M = kK X 222 73 3 541 6 la st M := evK ((pm222 X 538).trans rfl) la st M
set_option maxRecDepth 100000 in
theorem e222_541 (X : aX) (la : aLs) (st : List aV) (M : aM) : go X 222 541 la st M = kC X 222 (i_lda 2 542 la st M) := evC ((pm222 X 541).trans rfl) la st M
set_option maxRecDepth 100000 in
theorem e222_542 (X : aX) (la : aLs) (st : List aV) (M : aM) : go X 222 542 la st M = kC X 222 (i_lda 0 543 la st M) := evC ((pm222 X 542).trans rfl) la st M
set_option maxRecDepth 100000 in
theorem e222_543 (X : aX) (la : aLs) (st : List aV) (M : aM) : go X 222 543 la st M = kC X 222 (i_ldi 3 544 la st M) := evC ((pm222 X 543).trans rfl) la st M
set_option maxRecDepth 100000 in
theorem e222_544 (X : aX) (la : aLs) (st : List aV) (M : aM) : go X 222 544 la st M = kC X 222 (i_ci (nI 1) 545 la st M) := evC ((pm222 X 544).trans rfl) la st M
set_option maxRecDepth 100000 in
theorem e222_545 (X : aX) (la : aLs) (st : List aV) (M : aM) : go X 222 545 la st M = kC X 222 (i_bin (fun x y => x + y) 546 la st M) := evC ((pm222 X 545).trans rfl) la st M
set_option maxRecDepth 100000 in
theorem e222_546 (X : aX) (la : aLs) (st : List aV) (M : aM) : go X 222 546 la st M = kC X 222 (i_ial X 547 la st M) := evC ((pm222 X 546).trans rfl) la st M
set_option maxRecDepth 100000 in
theorem e222_547 (X : aX) (la : aLs) (st : List aV) (M : aM) : go X 222 547 la st M = kC X 222 (i_lda 0 548 la st M) := evC ((pm222 X 547).trans rfl) la st M
set_option maxRecDepth 100000 in
theorem e222_548 (X : aX) (la : aLs) (st : List aV) (M : aM) : go X 222 548 la st M = kC X 222 (i_ldi 3 549 la st M) := evC ((pm222 X 548).trans rfl) la st M
set_option maxRecDepth 100000 in
theorem e222_549 (X : aX) (la : aLs) (st : List aV) (M : aM) : go X 222 549 la st M = kC X 222 (i_ci (nI 2) 550 la st M) := evC ((pm222 X 549).trans rfl) la st M
set_option maxRecDepth 100000 in
theorem e222_550 (X : aX) (la : aLs) (st : List aV) (M : aM) : go X 222 550 la st M = kC X 222 (i_bin (fun x y => x + y) 551 la st M) := evC ((pm222 X 550).trans rfl) la st M
set_option maxRecDepth 100000 in
theorem e222_551 (X : aX) (la : aLs) (st : List aV) (M : aM) : go X 222 551 la st M = kC X 222 (i_ial X 552 la st M) := evC ((pm222 X 551).trans rfl) la st M
set_option maxRecDepth 100000 in
theorem e222_552 (X : aX) (la : aLs) (st : List aV) (M : aM) : go X 222 552 la st M = kK X 222 162 3 555 7 la st M := evK ((pm222 X 552).trans rfl) la st M
set_option maxRecDepth 100000 in
theorem e222_555 (X : aX) (la : aLs) (st : List aV) (M : aM) : go X 222 555 la st M = kC X 222 (i_cme 1322 558 la st M) := evC ((pm222 X 555).trans rfl) la st M
set_option maxRecDepth 100000 in
theorem e222_558 (X : aX) (la : aLs) (st : List aV) (M : aM) : go X 222 558 la st M = kC X 222 (i_ci (nI 0) 559 la st M) := evC ((pm222 X 558).trans rfl) la st M
set_option maxRecDepth 100000 in
theorem e222_559 (X : aX) (la : aLs) (st : List aV) (M : aM) : go X 222 559 la st M = i_zrt st M := evR ((pm222 X 559).trans rfl) la st M
set_option maxRecDepth 100000 in
theorem e222_560 (X : aX) (la : aLs) (st : List aV) (M : aM) : go X 222 560 la st M = kC X 222 (i_lda 1 561 la st M) := evC ((pm222 X 560).trans rfl) la st M
set_option maxRecDepth 100000 in
theorem e222_561 (X : aX) (la : aLs) (st : List aV) (M : aM) : go X 222 561 la st M = kC X 222 (i_lda 0 562 la st M) := evC ((pm222 X 561).trans rfl) la st M
set_option maxRecDepth 100000 in
theorem e222_562 (X : aX) (la : aLs) (st : List aV) (M : aM) : go X 222 562 la st M = kC X 222 (i_ldi 3 563 la st M) := evC ((pm222 X 562).trans rfl) la st M
set_option maxRecDepth 100000 in
theorem e222_563 (X : aX) (la : aLs) (st : List aV) (M : aM) : go X 222 563 la st M = kC X 222 (i_ci (nI 1) 564 la st M) := evC ((pm222 X 563).trans rfl) la st M
set_option maxRecDepth 100000 in
theorem e222_564 (X : aX) (la : aLs) (st : List aV) (M : aM) : go X 222 564 la st M = kC X 222 (i_bin (fun x y => x + y) 565 la st M) := evC ((pm222 X 564).trans rfl) la st M
set_option maxRecDepth 100000 in
theorem e222_565 (X : aX) (la : aLs) (st : List aV) (M : aM) : go X 222 565 la st M = kC X 222 (i_ial X 566 la st M) := evC ((pm222 X 565).trans rfl) la st M
set_option maxRecDepth 100000 in
theorem e222_566 (X : aX) (la : aLs) (st : List aV) (M : aM) : go X 222 566 la st M = kC X 222 (i_lda 0 567 la st M) := evC ((pm222 X 566).trans rfl) la st M
set_option maxRecDepth 100000 in
theorem e222_567 (X : aX) (la : aLs) (st : List aV) (M : aM) : go X 222 567 la st M = kC X 222 (i_ldi 3 568 la st M) := evC ((pm222 X 567).trans rfl) la st M
set_option maxRecDepth 100000 in
theorem e222_568 (X : aX) (la : aLs) (st : List aV) (M : aM) : go X 222 568 la st M = kC X 222 (i_ci (nI 2) 569 la st M) := evC ((pm222 X 568).trans rfl) la st M
set_option maxRecDepth 100000 in
theorem e222_569 (X : aX) (la : aLs) (st : List aV) (M : aM) : go X 222 569 la st M = kC X 222 (i_bin (fun x y => x + y) 570 la st M) := evC ((pm222 X 569).trans rfl) la st M
set_option maxRecDepth 100000 in
theorem e222_570 (X : aX) (la : aLs) (st : List aV) (M : aM) : go X 222 570 la st M = kC X 222 (i_ial X 571 la st M) := evC ((pm222 X 570).trans rfl) la st M
set_option maxRecDepth 100000 in
theorem e222_571 (X : aX) (la : aLs) (st : List aV) (M : aM) : go X 222 571 la st M = kK X 222 74 3 574 6 la st M := evK ((pm222 X 571).trans rfl) la st M
set_option maxRecDepth 100000 in
theorem e222_574 (X : aX) (la : aLs) (st : List aV) (M : aM) : go X 222 574 la st M = kC X 222 (i_lda 2 575 la st M) := evC ((pm222 X 574).trans rfl) la st M
set_option maxRecDepth 100000 in
theorem e222_575 (X : aX) (la : aLs) (st : List aV) (M : aM) : go X 222 575 la st M = kC X 222 (i_lda 0 576 la st M) := evC ((pm222 X 575).trans rfl) la st M
set_option maxRecDepth 100000 in
theorem e222_576 (X : aX) (la : aLs) (st : List aV) (M : aM) : go X 222 576 la st M = kC X 222 (i_ldi 3 577 la st M) := evC ((pm222 X 576).trans rfl) la st M
set_option maxRecDepth 100000 in
theorem e222_577 (X : aX) (la : aLs) (st : List aV) (M : aM) : go X 222 577 la st M = kC X 222 (i_ci (nI 1) 578 la st M) := evC ((pm222 X 577).trans rfl) la st M
set_option maxRecDepth 100000 in
theorem e222_578 (X : aX) (la : aLs) (st : List aV) (M : aM) : go X 222 578 la st M = kC X 222 (i_bin (fun x y => x + y) 579 la st M) := evC ((pm222 X 578).trans rfl) la st M
set_option maxRecDepth 100000 in
theorem e222_579 (X : aX) (la : aLs) (st : List aV) (M : aM) : go X 222 579 la st M = kC X 222 (i_ial X 580 la st M) := evC ((pm222 X 579).trans rfl) la st M
set_option maxRecDepth 100000 in
theorem e222_580 (X : aX) (la : aLs) (st : List aV) (M : aM) : go X 222 580 la st M = kC X 222 (i_lda 0 581 la st M) := evC ((pm222 X 580).trans rfl) la st M
set_option maxRecDepth 100000 in
theorem e222_581 (X : aX) (la : aLs) (st : List aV) (M : aM) : go X 222 581 la st M = kC X 222 (i_ldi 3 582 la st M) := evC ((pm222 X 581).trans rfl) la st M
set_option maxRecDepth 100000 in
theorem e222_582 (X : aX) (la : aLs) (st : List aV) (M : aM) : go X 222 582 la st M = kC X 222 (i_ci (nI 2) 583 la st M) := evC ((pm222 X 582).trans rfl) la st M
set_option maxRecDepth 100000 in
theorem e222_583 (X : aX) (la : aLs) (st : List aV) (M : aM) : go X 222 583 la st M = kC X 222 (i_bin (fun x y => x + y) 584 la st M) := evC ((pm222 X 583).trans rfl) la st M
set_option maxRecDepth 100000 in
theorem e222_584 (X : aX) (la : aLs) (st : List aV) (M : aM) : go X 222 584 la st M = kC X 222 (i_ial X 585 la st M) := evC ((pm222 X 584).trans rfl) la st M
set_option maxRecDepth 100000 in
theorem e222_585 (X : aX) (la : aLs) (st : List aV) (M : aM) : go X 222 585 la st M = kK X 222 165 3 588 7 la st M := evK ((pm222 X 585).trans rfl) la st M
set_option maxRecDepth 100000 in
theorem e222_588 (X : aX) (la : aLs) (st : List aV) (M : aM) : go X 222 588 la st M = kC X 222 (i_cme 1322 591 la st M) := evC ((pm222 X 588).trans rfl) la st M
set_option maxRecDepth 100000 in
theorem e222_591 (X : aX) (la : aLs) (st : List aV) (M : aM) : go X 222 591 la st M = kC X 222 (i_ci (nI 0) 592 la st M) := evC ((pm222 X 591).trans rfl) la st M
set_option maxRecDepth 100000 in
theorem e222_592 (X : aX) (la : aLs) (st : List aV) (M : aM) : go X 222 592 la st M = i_zrt st M := evR ((pm222 X 592).trans rfl) la st M
set_option maxRecDepth 100000 in
theorem e222_593 (X : aX) (la : aLs) (st : List aV) (M : aM) : go X 222 593 la st M = kC X 222 (i_lda 1 594 la st M) := evC ((pm222 X 593).trans rfl) la st M
set_option maxRecDepth 100000 in
theorem e222_594 (X : aX) (la : aLs) (st : List aV) (M : aM) : go X 222 594 la st M = kC X 222 (i_lda 0 595 la st M) := evC ((pm222 X 594).trans rfl) la st M
set_option maxRecDepth 100000 in
theorem e222_595 (X : aX) (la : aLs) (st : List aV) (M : aM) : go X 222 595 la st M = kC X 222 (i_ldi 3 596 la st M) := evC ((pm222 X 595).trans rfl) la st M
set_option maxRecDepth 100000 in
theorem e222_596 (X : aX) (la : aLs) (st : List aV) (M : aM) : go X 222 596 la st M = kC X 222 (i_ci (nI 1) 597 la st M) := evC ((pm222 X 596).trans rfl) la st M
set_option maxRecDepth 100000 in
theorem e222_597 (X : aX) (la : aLs) (st : List aV) (M : aM) : go X 222 597 la st M = kC X 222 (i_bin (fun x y => x + y) 598 la st M) := evC ((pm222 X 597).trans rfl) la st M
set_option maxRecDepth 100000 in
theorem e222_598 (X : aX) (la : aLs) (st : List aV) (M : aM) : go X 222 598 la st M = kC X 222 (i_ial X 599 la st M) := evC ((pm222 X 598).trans rfl) la st M
set_option maxRecDepth 100000 in
theorem e222_599 (X : aX) (la : aLs) (st : List aV) (M : aM) : go X 222 599 la st M = kC X 222 (i_lda 0 600 la st M) := evC ((pm222 X 599).trans rfl) la st M
set_option maxRecDepth 100000 in
theorem e222_600 (X : aX) (la : aLs) (st : List aV) (M : aM) : go X 222 600 la st M = kC X 222 (i_ldi 3 601 la st M) := evC ((pm222 X 600).trans rfl) la st M
set_option maxRecDepth 100000 in
theorem e222_601 (X : aX) (la : aLs) (st : List aV) (M : aM) : go X 222 601 la st M = kC X 222 (i_ci (nI 2) 602 la st M) := evC ((pm222 X 601).trans rfl) la st M
set_option maxRecDepth 100000 in
theorem e222_602 (X : aX) (la : aLs) (st : List aV) (M : aM) : go X 222 602 la st M = kC X 222 (i_bin (fun x y => x + y) 603 la st M) := evC ((pm222 X 602).trans rfl) la st M
set_option maxRecDepth 100000 in
theorem e222_603 (X : aX) (la : aLs) (st : List aV) (M : aM) : go X 222 603 la st M = kC X 222 (i_ial X 604 la st M) := evC ((pm222 X 603).trans rfl) la st M
set_option maxRecDepth 100000 in
theorem e222_604 (X : aX) (la : aLs) (st : List aV) (M : aM) : go X 222 604 la st M = kK X 222 75 3 607 6 la st M := evK ((pm222 X 604).trans rfl) la st M
set_option maxRecDepth 100000 in
theorem e222_607 (X : aX) (la : aLs) (st : List aV) (M : aM) : go X 222 607 la st M = kC X 222 (i_lda 2 608 la st M) := evC ((pm222 X 607).trans rfl) la st M
set_option maxRecDepth 100000 in
theorem e222_608 (X : aX) (la : aLs) (st : List aV) (M : aM) : go X 222 608 la st M = kC X 222 (i_lda 0 609 la st M) := evC ((pm222 X 608).trans rfl) la st M
set_option maxRecDepth 100000 in
theorem e222_609 (X : aX) (la : aLs) (st : List aV) (M : aM) : go X 222 609 la st M = kC X 222 (i_ldi 3 610 la st M) := evC ((pm222 X 609).trans rfl) la st M
set_option maxRecDepth 100000 in
theorem e222_610 (X : aX) (la : aLs) (st : List aV) (M : aM) : go X 222 610 la st M = kC X 222 (i_ci (nI 1) 611 la st M) := evC ((pm222 X 610).trans rfl) la st M
set_option maxRecDepth 100000 in
theorem e222_611 (X : aX) (la : aLs) (st : List aV) (M : aM) : go X 222 611 la st M = kC X 222 (i_bin (fun x y => x + y) 612 la st M) := evC ((pm222 X 611).trans rfl) la st M
set_option maxRecDepth 100000 in
theorem e222_612 (X : aX) (la : aLs) (st : List aV) (M : aM) : go X 222 612 la st M = kC X 222 (i_ial X 613 la st M) := evC ((pm222 X 612).trans rfl) la st M
set_option maxRecDepth 100000 in
theorem e222_613 (X : aX) (la : aLs) (st : List aV) (M : aM) : go X 222 613 la st M = kC X 222 (i_lda 0 614 la st M) := evC ((pm222 X 613).trans rfl) la st M
set_option maxRecDepth 100000 in
theorem e222_614 (X : aX) (la : aLs) (st : List aV) (M : aM) : go X 222 614 la st M = kC X 222 (i_ldi 3 615 la st M) := evC ((pm222 X 614).trans rfl) la st M
set_option maxRecDepth 100000 in
theorem e222_615 (X : aX) (la : aLs) (st : List aV) (M : aM) : go X 222 615 la st M = kC X 222 (i_ci (nI 2) 616 la st M) := evC ((pm222 X 615).trans rfl) la st M
set_option maxRecDepth 100000 in
theorem e222_616 (X : aX) (la : aLs) (st : List aV) (M : aM) : go X 222 616 la st M = kC X 222 (i_bin (fun x y => x + y) 617 la st M) := evC ((pm222 X 616).trans rfl) la st M
set_option maxRecDepth 100000 in
theorem e222_617 (X : aX) (la : aLs) (st : List aV) (M : aM) : go X 222 617 la st M = kC X 222 (i_ial X 618 la st M) := evC ((pm222 X 617).trans rfl) la st M
set_option maxRecDepth 100000 in
theorem e222_618 (X : aX) (la : aLs) (st : List aV) (M : aM) : go X 222 618 la st M = kK X 222 166 3 621 7 la st M := evK ((pm222 X 618).trans rfl) la st M
set_option maxRecDepth 100000 in
theorem e222_621 (X : aX) (la : aLs) (st : List aV) (M : aM) : go X 222 621 la st M = kC X 222 (i_cme 1322 624 la st M) := evC ((pm222 X 621).trans rfl) la st M
set_option maxRecDepth 100000 in
theorem e222_624 (X : aX) (la : aLs) (st : List aV) (M : aM) : go X 222 624 la st M = kC X 222 (i_ci (nI 0) 625 la st M) := evC ((pm222 X 624).trans rfl) la st M
set_option maxRecDepth 100000 in
theorem e222_625 (X : aX) (la : aLs) (st : List aV) (M : aM) : go X 222 625 la st M = i_zrt st M := evR ((pm222 X 625).trans rfl) la st M
set_option maxRecDepth 100000 in
theorem e222_626 (X : aX) (la : aLs) (st : List aV) (M : aM) : go X 222 626 la st M = kC X 222 (i_lda 1 627 la st M) := evC ((pm222 X 626).trans rfl) la st M
set_option maxRecDepth 100000 in
theorem e222_627 (X : aX) (la : aLs) (st : List aV) (M : aM) : go X 222 627 la st M = kC X 222 (i_lda 0 628 la st M) := evC ((pm222 X 627).trans rfl) la st M
set_option maxRecDepth 100000 in
theorem e222_628 (X : aX) (la : aLs) (st : List aV) (M : aM) : go X 222 628 la st M = kC X 222 (i_ldi 3 629 la st M) := evC ((pm222 X 628).trans rfl) la st M
set_option maxRecDepth 100000 in
theorem e222_629 (X : aX) (la : aLs) (st : List aV) (M : aM) : go X 222 629 la st M = kC X 222 (i_ci (nI 1) 630 la st M) := evC ((pm222 X 629).trans rfl) la st M
set_option maxRecDepth 100000 in
theorem e222_630 (X : aX) (la : aLs) (st : List aV) (M : aM) : go X 222 630 la st M = kC X 222 (i_bin (fun x y => x + y) 631 la st M) := evC ((pm222 X 630).trans rfl) la st M
set_option maxRecDepth 100000 in
theorem e222_631 (X : aX) (la : aLs) (st : List aV) (M : aM) : go X 222 631 la st M = kC X 222 (i_ial X 632 la st M) := evC ((pm222 X 631).trans rfl) la st M
set_option maxRecDepth 100000 in
theorem e222_632 (X : aX) (la : aLs) (st : List aV) (M : aM) : go X 222 632 la st M = kC X 222 (i_lda 0 633 la st M) := evC ((pm222 X 632).trans rfl) la st M
set_option maxRecDepth 100000 in
theorem e222_633 (X : aX) (la : aLs) (st : List aV) (M : aM) : go X 222 633 la st M = kC X 222 (i_ldi 3 634 la st M) := evC ((pm222 X 633).trans rfl) la st M
set_option maxRecDepth 100000 in
theorem e222_634 (X : aX) (la : aLs) (st : List aV) (M : aM) : go X 222 634 la st M = kC X 222 (i_ci (nI 2) 635 la st M) := evC ((pm222 X 634).trans rfl) la st M
set_option maxRecDepth 100000 in
theorem e222_635 (X : aX) (la : aLs) (st : List aV) (M : aM) : go X 222 635 la st M = kC X 222 (i_bin (fun x y => x + y) 636 la st M) := evC ((pm222 X 635).trans rfl) la st M
set_option maxRecDepth 100000 in
theorem e222_636 (X : aX) (la : aLs) (st : List aV) (M : aM) : go X 222 636 la st M = kC X 222 (i_ial X 637 la st M) := evC ((pm222 X 636).trans rfl) la st M
set_option maxRecDepth 100000 in
theorem e222_637 (X : aX) (la : aLs) (st : List aV) (M : aM) : go X 222 637 la st M = kK X 222 76 3 640 6 la st M := evK ((pm222 X 637).trans rfl) la st M
set_option maxRecDepth 100000 in
theorem e222_640 (X : aX) (la : aLs) (st : List aV) (M : aM) : go X 222 640 la st M = kC X 222 (i_lda 2 641 la st M) := evC ((pm222 X 640).trans rfl) la st M
set_option maxRecDepth 100000 in
theorem e222_641 (X : aX) (la : aLs) (st : List aV) (M : aM) : go X 222 641 la st M = kC X 222 (i_lda 0 642 la st M) := evC ((pm222 X 641).trans rfl) la st M
set_option maxRecDepth 100000 in
theorem e222_642 (X : aX) (la : aLs) (st : List aV) (M : aM) : go X 222 642 la st M = kC X 222 (i_ldi 3 643 la st M) := evC ((pm222 X 642).trans rfl) la st M
set_option maxRecDepth 100000 in
theorem e222_643 (X : aX) (la : aLs) (st : List aV) (M : aM) : go X 222 643 la st M = kC X 222 (i_ci (nI 1) 644 la st M) := evC ((pm222 X 643).trans rfl) la st M
set_option maxRecDepth 100000 in
theorem e222_644 (X : aX) (la : aLs) (st : List aV) (M : aM) : go X 222 644 la st M = kC X 222 (i_bin (fun x y => x + y) 645 la st M) := evC ((pm222 X 644).trans rfl) la st M
set_option maxRecDepth 100000 in
theorem e222_645 (X : aX) (la : aLs) (st : List aV) (M : aM) : go X 222 645 la st M = kC X 222 (i_ial X 646 la st M) := evC ((pm222 X 645).trans rfl) la st M
set_option maxRecDepth 100000 in
theorem e222_646 (X : aX) (la : aLs) (st : List aV) (M : aM) : go X 222 646 la st M = kC X 222 (i_lda 0 647 la st M) := evC ((pm222 X 646).trans rfl) la st M
set_option maxRecDepth 100000 in
theorem e222_647 (X : aX) (la : aLs) (st : List aV) (M : aM) : go X 222 647 la st M = kC X 222 (i_ldi 3 648 la st M) := evC ((pm222 X 647).trans rfl) la st M
set_option maxRecDepth 100000 in
theorem e222_648 (X : aX) (la : aLs) (st : List aV) (M : aM) : go X 222 648 la st M = kC X 222 (i_ci (nI 2) 649 la st M) := evC ((pm222 X 648).trans rfl) la st M
set_option maxRecDepth 100000 in
theorem e222_649 (X : aX) (la : aLs) (st : List aV) (M : aM) : go X 222 649 la st M = kC X 222 (i_bin (fun x y => x + y) 650 la st M) := evC ((pm222 X 649).trans rfl) la st M
set_option maxRecDepth 100000 in
theorem e222_650 (X : aX) (la : aLs) (st : List aV) (M : aM) : go X 222 650 la st M = kC X 222 (i_ial X 651 la st M) := evC ((pm222 X 650).trans rfl) la st M
set_option maxRecDepth 100000 in
theorem e222_651 (X : aX) (la : aLs) (st : List aV) (M : aM) : go X 222 651 la st M = kK X 222 167 3 654 7 la st M := evK ((pm222 X 651).trans rfl) la st M
set_option maxRecDepth 100000 in
theorem e222_654 (X : aX) (la : aLs) (st : List aV) (M : aM) : go X 222 654 la st M = kC X 222 (i_cme 1322 657 la st M) := evC ((pm222 X 654).trans rfl) la st M
set_option maxRecDepth 100000 in
theorem e222_657 (X : aX) (la : aLs) (st : List aV) (M : aM) : go X 222 657 la st M = kC X 222 (i_ci (nI 0) 658 la st M) := evC ((pm222 X 657).trans rfl) la st M
set_option maxRecDepth 100000 in
theorem e222_658 (X : aX) (la : aLs) (st : List aV) (M : aM) : go X 222 658 la st M = i_zrt st M := evR ((pm222 X 658).trans rfl) la st M
set_option maxRecDepth 100000 in
theorem e222_659 (X : aX) (la : aLs) (st : List aV) (M : aM) : go X 222 659 la st M = kC X 222 (i_lda 1 660 la st M) := evC ((pm222 X 659).trans rfl) la st M
set_option maxRecDepth 100000 in
theorem e222_660 (X : aX) (la : aLs) (st : List aV) (M : aM) : go X 222 660 la st M = kC X 222 (i_lda 0 661 la st M) := evC ((pm222 X 660).trans rfl) la st M
set_option maxRecDepth 100000 in
theorem e222_661 (X : aX) (la : aLs) (st : List aV) (M : aM) : go X 222 661 la st M = kC X 222 (i_ldi 3 662 la st M) := evC ((pm222 X 661).trans rfl) la st M
set_option maxRecDepth 100000 in
theorem e222_662 (X : aX) (la : aLs) (st : List aV) (M : aM) : go X 222 662 la st M = kC X 222 (i_ci (nI 1) 663 la st M) := evC ((pm222 X 662).trans rfl) la st M
set_option maxRecDepth 100000 in
theorem e222_663 (X : aX) (la : aLs) (st : List aV) (M : aM) : go X 222 663 la st M = kC X 222 (i_bin (fun x y => x + y) 664 la st M) := evC ((pm222 X 663).trans rfl) la st M
set_option maxRecDepth 100000 in
theorem e222_664 (X : aX) (la : aLs) (st : List aV) (M : aM) : go X 222 664 la st M = kC X 222 (i_ial X 665 la st M) := evC ((pm222 X 664).trans rfl) la st M
set_option maxRecDepth 100000 in
theorem e222_665 (X : aX) (la : aLs) (st : List aV) (M : aM) : go X 222 665 la st M = kC X 222 (i_lda 0 666 la st M) := evC ((pm222 X 665).trans rfl) la st M
set_option maxRecDepth 100000 in
theorem e222_666 (X : aX) (la : aLs) (st : List aV) (M : aM) : go X 222 666 la st M = kC X 222 (i_ldi 3 667 la st M) := evC ((pm222 X 666).trans rfl) la st M
set_option maxRecDepth 100000 in
theorem e222_667 (X : aX) (la : aLs) (st : List aV) (M : aM) : go X 222 667 la st M = kC X 222 (i_ci (nI 2) 668 la st M) := evC ((pm222 X 667).trans rfl) la st M
set_option maxRecDepth 100000 in
theorem e222_668 (X : aX) (la : aLs) (st : List aV) (M : aM) : go X 222 668 la st M = kC X 222 (i_bin (fun x y => x + y) 669 la st M) := evC ((pm222 X 668).trans rfl) la st M
set_option maxRecDepth 100000 in
theorem e222_669 (X : aX) (la : aLs) (st : List aV) (M : aM) : go X 222 669 la st M = kC X 222 (i_ial X 670 la st M) := evC ((pm222 X 669).trans rfl) la st M
set_option maxRecDepth 100000 in
theorem e222_670 (X : aX) (la : aLs) (st : List aV) (M : aM) : go X 222 670 la st M = kK X 222 77 3 673 6 la st M := evK ((pm222 X 670).trans rfl) la st M
set_option maxRecDepth 100000 in
theorem e222_673 (X : aX) (la : aLs) (st : List aV) (M : aM) : go X 222 673 la st M = kC X 222 (i_lda 2 674 la st M) := evC ((pm222 X 673).trans rfl) la st M
set_option maxRecDepth 100000 in
theorem e222_674 (X : aX) (la : aLs) (st : List aV) (M : aM) : go X 222 674 la st M = kC X 222 (i_lda 0 675 la st M) := evC ((pm222 X 674).trans rfl) la st M
set_option maxRecDepth 100000 in
theorem e222_675 (X : aX) (la : aLs) (st : List aV) (M : aM) : go X 222 675 la st M = kC X 222 (i_ldi 3 676 la st M) := evC ((pm222 X 675).trans rfl) la st M
set_option maxRecDepth 100000 in
theorem e222_676 (X : aX) (la : aLs) (st : List aV) (M : aM) : go X 222 676 la st M = kC X 222 (i_ci (nI 1) 677 la st M) := evC ((pm222 X 676).trans rfl) la st M
set_option maxRecDepth 100000 in
theorem e222_677 (X : aX) (la : aLs) (st : List aV) (M : aM) : go X 222 677 la st M = kC X 222 (i_bin (fun x y => x + y) 678 la st M) := evC ((pm222 X 677).trans rfl) la st M
set_option maxRecDepth 100000 in
theorem e222_678 (X : aX) (la : aLs) (st : List aV) (M : aM) : go X 222 678 la st M = kC X 222 (i_ial X 679 la st M) := evC ((pm222 X 678).trans rfl) la st M
set_option maxRecDepth 100000 in
theorem e222_679 (X : aX) (la : aLs) (st : List aV) (M : aM) : go X 222 679 la st M = kC X 222 (i_lda 0 680 la st M) := evC ((pm222 X 679).trans rfl) la st M
set_option maxRecDepth 100000 in
theorem e222_680 (X : aX) (la : aLs) (st : List aV) (M : aM) : go X 222 680 la st M = kC X 222 (i_ldi 3 681 la st M) := evC ((pm222 X 680).trans rfl) la st M
set_option maxRecDepth 100000 in
theorem e222_681 (X : aX) (la : aLs) (st : List aV) (M : aM) : go X 222 681 la st M = kC X 222 (i_ci (nI 2) 682 la st M) := evC ((pm222 X 681).trans rfl) la st M
set_option maxRecDepth 100000 in
theorem e222_682 (X : aX) (la : aLs) (st : List aV) (M : aM) : go X 222 682 la st M = kC X 222 (i_bin (fun x y => x + y) 683 la st M) := evC ((pm222 X 682).trans rfl) la st M
set_option maxRecDepth 100000 in
theorem e222_683 (X : aX) (la : aLs) (st : List aV) (M : aM) : go X 222 683 la st M = kC X 222 (i_ial X 684 la st M) := evC ((pm222 X 683).trans rfl) la st M
set_option maxRecDepth 100000 in
theorem e222_684 (X : aX) (la : aLs) (st : List aV) (M : aM) : go X 222 684 la st M = kK X 222 168 3 687 7 la st M := evK ((pm222 X 684).trans rfl) la st M
set_option maxRecDepth 100000 in
theorem e222_687 (X : aX) (la : aLs) (st : List aV) (M : aM) : go X 222 687 la st M = kC X 222 (i_cme 1322 690 la st M) := evC ((pm222 X 687).trans rfl) la st M
set_option maxRecDepth 100000 in
theorem e222_690 (X : aX) (la : aLs) (st : List aV) (M : aM) : go X 222 690 la st M = kC X 222 (i_ci (nI 0) 691 la st M) := evC ((pm222 X 690).trans rfl) la st M
set_option maxRecDepth 100000 in
theorem e222_691 (X : aX) (la : aLs) (st : List aV) (M : aM) : go X 222 691 la st M = i_zrt st M := evR ((pm222 X 691).trans rfl) la st M
set_option maxRecDepth 100000 in
theorem e222_692 (X : aX) (la : aLs) (st : List aV) (M : aM) : go X 222 692 la st M = kC X 222 (i_lda 1 693 la st M) := evC ((pm222 X 692).trans rfl) la st M
set_option maxRecDepth 100000 in
theorem e222_693 (X : aX) (la : aLs) (st : List aV) (M : aM) : go X 222 693 la st M = kC X 222 (i_lda 0 694 la st M) := evC ((pm222 X 693).trans rfl) la st M
set_option maxRecDepth 100000 in
theorem e222_694 (X : aX) (la : aLs) (st : List aV) (M : aM) : go X 222 694 la st M = kC X 222 (i_ldi 3 695 la st M) := evC ((pm222 X 694).trans rfl) la st M
set_option maxRecDepth 100000 in
theorem e222_695 (X : aX) (la : aLs) (st : List aV) (M : aM) : go X 222 695 la st M = kC X 222 (i_ci (nI 1) 696 la st M) := evC ((pm222 X 695).trans rfl) la st M
set_option maxRecDepth 100000 in
theorem e222_696 (X : aX) (la : aLs) (st : List aV) (M : aM) : go X 222 696 la st M = kC X 222 (i_bin (fun x y => x + y) 697 la st M) := evC ((pm222 X 696).trans rfl) la st M
set_option maxRecDepth 100000 in
theorem e222_697 (X : aX) (la : aLs) (st : List aV) (M : aM) : go X 222 697 la st M = kC X 222 (i_ial X 698 la st M) := evC ((pm222 X 697).trans rfl) la st M
set_option maxRecDepth 100000 in
theorem e222_698 (X : aX) (la : aLs) (st : List aV) (M : aM) : go X 222 698 la st M = kK X 222 78 2 701 6 la st M := evK ((pm222 X 698).trans rfl) la st M
set_option maxRecDepth 100000 in
theorem e222_701 (X : aX) (la : aLs) (st : List aV) (M : aM) : go X 222 701 la st M = kC X 222 (i_lda 2 702 la st M) := evC ((pm222 X 701).trans rfl) la st M
set_option maxRecDepth 100000 in
theorem e222_702 (X : aX) (la : aLs) (st : List aV) (M : aM) : go X 222 702 la st M = kC X 222 (i_lda 0 703 la st M) := evC ((pm222 X 702).trans rfl) la st M
set_option maxRecDepth 100000 in
theorem e222_703 (X : aX) (la : aLs) (st : List aV) (M : aM) : go X 222 703 la st M = kC X 222 (i_ldi 3 704 la st M) := evC ((pm222 X 703).trans rfl) la st M
set_option maxRecDepth 100000 in
theorem e222_704 (X : aX) (la : aLs) (st : List aV) (M : aM) : go X 222 704 la st M = kC X 222 (i_ci (nI 1) 705 la st M) := evC ((pm222 X 704).trans rfl) la st M
set_option maxRecDepth 100000 in
theorem e222_705 (X : aX) (la : aLs) (st : List aV) (M : aM) : go X 222 705 la st M = kC X 222 (i_bin (fun x y => x + y) 706 la st M) := evC ((pm222 X 705).trans rfl) la st M
set_option maxRecDepth 100000 in
theorem e222_706 (X : aX) (la : aLs) (st : List aV) (M : aM) : go X 222 706 la st M = kC X 222 (i_ial X 707 la st M) := evC ((pm222 X 706).trans rfl) la st M
set_option maxRecDepth 100000 in
theorem e222_707 (X : aX) (la : aLs) (st : List aV) (M : aM) : go X 222 707 la st M = kK X 222 170 2 710 7 la st M := evK ((pm222 X 707).trans rfl) la st M
set_option maxRecDepth 100000 in
theorem e222_710 (X : aX) (la : aLs) (st : List aV) (M : aM) : go X 222 710 la st M = kC X 222 (i_cme 1322 713 la st M) := evC ((pm222 X 710).trans rfl) la st M
set_option maxRecDepth 100000 in
theorem e222_713 (X : aX) (la : aLs) (st : List aV) (M : aM) : go X 222 713 la st M = kC X 222 (i_ci (nI 0) 714 la st M) := evC ((pm222 X 713).trans rfl) la st M
set_option maxRecDepth 100000 in
theorem e222_714 (X : aX) (la : aLs) (st : List aV) (M : aM) : go X 222 714 la st M = i_zrt st M := evR ((pm222 X 714).trans rfl) la st M
set_option maxRecDepth 100000 in
theorem e222_715 (X : aX) (la : aLs) (st : List aV) (M : aM) : go X 222 715 la st M = kC X 222 (i_lda 1 716 la st M) := evC ((pm222 X 715).trans rfl) la st M
set_option maxRecDepth 100000 in
theorem e222_716 (X : aX) (la : aLs) (st : List aV) (M : aM) : go X 222 716 la st M = kC X 222 (i_lda 0 717 la st M) := evC ((pm222 X 716).trans rfl) la st M
set_option maxRecDepth 100000 in
theorem e222_717 (X : aX) (la : aLs) (st : List aV) (M : aM) : go X 222 717 la st M = kC X 222 (i_ldi 3 718 la st M) := evC ((pm222 X 717).trans rfl) la st M
set_option maxRecDepth 100000 in
theorem e222_718 (X : aX) (la : aLs) (st : List aV) (M : aM) : go X 222 718 la st M = kC X 222 (i_ci (nI 1) 719 la st M) := evC ((pm222 X 718).trans rfl) la st M
set_option maxRecDepth 100000 in
theorem e222_719 (X : aX) (la : aLs) (st : List aV) (M : aM) : go X 222 719 la st M = kC X 222 (i_bin (fun x y => x + y) 720 la st M) := evC ((pm222 X 719).trans rfl) la st M
set_option maxRecDepth 100000 in
theorem e222_720 (X : aX) (la : aLs) (st : List aV) (M : aM) : go X 222 720 la st M = kC X 222 (i_ial X 721 la st M) := evC ((pm222 X 720).trans rfl) la st M
set_option maxRecDepth 100000 in
theorem e222_721 (X : aX) (la : aLs) (st : List aV) (M : aM) : go X 222 721 la st M = kK X 222 79 2 724 6 la st M := evK ((pm222 X 721).trans rfl) la st M
set_option maxRecDepth 100000 in
theorem e222_724 (X : aX) (la : aLs) (st : List aV) (M : aM) : go X 222 724 la st M = kC X 222 (i_lda 2 725 la st M) := evC ((pm222 X 724).trans rfl) la st M
set_option maxRecDepth 100000 in
theorem e222_725 (X : aX) (la : aLs) (st : List aV) (M : aM) : go X 222 725 la st M = kC X 222 (i_lda 0 726 la st M) := evC ((pm222 X 725).trans rfl) la st M
set_option maxRecDepth 100000 in
theorem e222_726 (X : aX) (la : aLs) (st : List aV) (M : aM) : go X 222 726 la st M = kC X 222 (i_ldi 3 727 la st M) := evC ((pm222 X 726).trans rfl) la st M
set_option maxRecDepth 100000 in
theorem e222_727 (X : aX) (la : aLs) (st : List aV) (M : aM) : go X 222 727 la st M = kC X 222 (i_ci (nI 1) 728 la st M) := evC ((pm222 X 727).trans rfl) la st M
set_option maxRecDepth 100000 in
theorem e222_728 (X : aX) (la : aLs) (st : List aV) (M : aM) : go X 222 728 la st M = kC X 222 (i_bin (fun x y => x + y) 729 la st M) := evC ((pm222 X 728).trans rfl) la st M
set_option maxRecDepth 100000 in
theorem e222_729 (X : aX) (la : aLs) (st : List aV) (M : aM) : go X 222 729 la st M = kC X 222 (i_ial X 730 la st M) := evC ((pm222 X 729).trans rfl) la st M
set_option maxRecDepth 100000 in
theorem e222_730 (X : aX) (la : aLs) (st : List aV) (M : aM) : go X 222 730 la st M = kK X 222 171 2 733 7 la st M := evK ((pm222 X 730).trans rfl) la st M
set_option maxRecDepth 100000 in
theorem e222_733 (X : aX) (la : aLs) (st : List aV) (M : aM) : go X 222 733 la st M = kC X 222 (i_cme 1322 736 la st M) := evC ((pm222 X 733).trans rfl) la st M
set_option maxRecDepth 100000 in
theorem e222_736 (X : aX) (la : aLs) (st : List aV) (M : aM) : go X 222 736 la st M = kC X 222 (i_ci (nI 0) 737 la st M) := evC ((pm222 X 736).trans rfl) la st M
set_option maxRecDepth 100000 in
theorem e222_737 (X : aX) (la : aLs) (st : List aV) (M : aM) : go X 222 737 la st M = i_zrt st M := evR ((pm222 X 737).trans rfl) la st M
set_option maxRecDepth 100000 in
theorem e222_738 (X : aX) (la : aLs) (st : List aV) (M : aM) : go X 222 738 la st M = kC X 222 (i_lda 1 739 la st M) := evC ((pm222 X 738).trans rfl) la st M
set_option maxRecDepth 100000 in
theorem e222_739 (X : aX) (la : aLs) (st : List aV) (M : aM) : go X 222 739 la st M = kC X 222 (i_lda 0 740 la st M) := evC ((pm222 X 739).trans rfl) la st M
set_option maxRecDepth 100000 in
theorem e222_740 (X : aX) (la : aLs) (st : List aV) (M : aM) : go X 222 740 la st M = kC X 222 (i_ldi 3 741 la st M) := evC ((pm222 X 740).trans rfl) la st M
set_option maxRecDepth 100000 in
theorem e222_741 (X : aX) (la : aLs) (st : List aV) (M : aM) : go X 222 741 la st M = kC X 222 (i_ci (nI 1) 742 la st M) := evC ((pm222 X 741).trans rfl) la st M
set_option maxRecDepth 100000 in
theorem e222_742 (X : aX) (la : aLs) (st : List aV) (M : aM) : go X 222 742 la st M = kC X 222 (i_bin (fun x y => x + y) 743 la st M) := evC ((pm222 X 742).trans rfl) la st M
set_option maxRecDepth 100000 in
theorem e222_743 (X : aX) (la : aLs) (st : List aV) (M : aM) : go X 222 743 la st M = kC X 222 (i_ial X 744 la st M) := evC ((pm222 X 743).trans rfl) la st M
set_option maxRecDepth 100000 in
theorem e222_744 (X : aX) (la : aLs) (st : List aV) (M : aM) : go X 222 744 la st M = kC X 222 (i_lda 0 745 la st M) := evC ((pm222 X 744).trans rfl) la st M
set_option maxRecDepth 100000 in
theorem e222_745 (X : aX) (la : aLs) (st : List aV) (M : aM) : go X 222 745 la st M = kC X 222 (i_ldi 3 746 la st M) := evC ((pm222 X 745).trans rfl) la st M
set_option maxRecDepth 100000 in
theorem e222_746 (X : aX) (la : aLs) (st : List aV) (M : aM) : go X 222 746 la st M = kC X 222 (i_ci (nI 2) 747 la st M) := evC ((pm222 X 746).trans rfl) la st M
set_option maxRecDepth 100000 in
theorem e222_747 (X : aX) (la : aLs) (st : List aV) (M : aM) : go X 222 747 la st M = kC X 222 (i_bin (fun x y => x + y) 748 la st M) := evC ((pm222 X 747).trans rfl) la st M
set_option maxRecDepth 100000 in
theorem e222_748 (X : aX) (la : aLs) (st : List aV) (M : aM) : go X 222 748 la st M = kC X 222 (i_ial X 749 la st M) := evC ((pm222 X 748).trans rfl) la st M
set_option maxRecDepth 100000 in
theorem e222_749 (X : aX) (la : aLs) (st : List aV) (M : aM) : go X 222 749 la st M = kK X 222 80 3 752 6 la st M := evK ((pm222 X 749).trans rfl) la st M
set_option maxRecDepth 100000 in
theorem e222_752 (X : aX) (la : aLs) (st : List aV) (M : aM) : go X 222 752 la st M = kC X 222 (i_lda 2 753 la st M) := evC ((pm222 X 752).trans rfl) la st M
set_option maxRecDepth 100000 in
theorem e222_753 (X : aX) (la : aLs) (st : List aV) (M : aM) : go X 222 753 la st M = kC X 222 (i_lda 0 754 la st M) := evC ((pm222 X 753).trans rfl) la st M
set_option maxRecDepth 100000 in
theorem e222_754 (X : aX) (la : aLs) (st : List aV) (M : aM) : go X 222 754 la st M = kC X 222 (i_ldi 3 755 la st M) := evC ((pm222 X 754).trans rfl) la st M
set_option maxRecDepth 100000 in
theorem e222_755 (X : aX) (la : aLs) (st : List aV) (M : aM) : go X 222 755 la st M = kC X 222 (i_ci (nI 1) 756 la st M) := evC ((pm222 X 755).trans rfl) la st M
set_option maxRecDepth 100000 in
theorem e222_756 (X : aX) (la : aLs) (st : List aV) (M : aM) : go X 222 756 la st M = kC X 222 (i_bin (fun x y => x + y) 757 la st M) := evC ((pm222 X 756).trans rfl) la st M
set_option maxRecDepth 100000 in
theorem e222_757 (X : aX) (la : aLs) (st : List aV) (M : aM) : go X 222 757 la st M = kC X 222 (i_ial X 758 la st M) := evC ((pm222 X 757).trans rfl) la st M
set_option maxRecDepth 100000 in
theorem e222_758 (X : aX) (la : aLs) (st : List aV) (M : aM) : go X 222 758 la st M = kC X 222 (i_lda 0 759 la st M) := evC ((pm222 X 758).trans rfl) la st M
set_option maxRecDepth 100000 in
theorem e222_759 (X : aX) (la : aLs) (st : List aV) (M : aM) : go X 222 759 la st M = kC X 222 (i_ldi 3 760 la st M) := evC ((pm222 X 759).trans rfl) la st M
set_option maxRecDepth 100000 in
theorem e222_760 (X : aX) (la : aLs) (st : List aV) (M : aM) : go X 222 760 la st M = kC X 222 (i_ci (nI 2) 761 la st M) := evC ((pm222 X 760).trans rfl) la st M
set_option maxRecDepth 100000 in
theorem e222_761 (X : aX) (la : aLs) (st : List aV) (M : aM) : go X 222 761 la st M = kC X 222 (i_bin (fun x y => x + y) 762 la st M) := evC ((pm222 X 761).trans rfl) la st M
set_option maxRecDepth 100000 in
theorem e222_762 (X : aX) (la : aLs) (st : List aV) (M : aM) : go X 222 762 la st M = kC X 222 (i_ial X 763 la st M) := evC ((pm222 X 762).trans rfl) la st M
set_option maxRecDepth 100000 in
theorem e222_763 (X : aX) (la : aLs) (st : List aV) (M : aM) : go X 222 763 la st M = kK X 222 175 3 766 7 la st M := evK ((pm222 X 763).trans rfl) la st M
set_option maxRecDepth 100000 in
theorem e222_766 (X : aX) (la : aLs) (st : List aV) (M : aM) : go X 222 766 la st M = kC X 222 (i_cme 1322 769 la st M) := evC ((pm222 X 766).trans rfl) la st M
set_option maxRecDepth 100000 in
theorem e222_769 (X : aX) (la : aLs) (st : List aV) (M : aM) : go X 222 769 la st M = kC X 222 (i_ci (nI 0) 770 la st M) := evC ((pm222 X 769).trans rfl) la st M
set_option maxRecDepth 100000 in
theorem e222_770 (X : aX) (la : aLs) (st : List aV) (M : aM) : go X 222 770 la st M = i_zrt st M := evR ((pm222 X 770).trans rfl) la st M
set_option maxRecDepth 100000 in
theorem e222_771 (X : aX) (la : aLs) (st : List aV) (M : aM) : go X 222 771 la st M = kC X 222 (i_lda 1 772 la st M) := evC ((pm222 X 771).trans rfl) la st M
set_option maxRecDepth 100000 in
theorem e222_772 (X : aX) (la : aLs) (st : List aV) (M : aM) : go X 222 772 la st M = kC X 222 (i_lda 0 773 la st M) := evC ((pm222 X 772).trans rfl) la st M
set_option maxRecDepth 100000 in
theorem e222_773 (X : aX) (la : aLs) (st : List aV) (M : aM) : go X 222 773 la st M = kC X 222 (i_ldi 3 774 la st M) := evC ((pm222 X 773).trans rfl) la st M
set_option maxRecDepth 100000 in
theorem e222_774 (X : aX) (la : aLs) (st : List aV) (M : aM) : go X 222 774 la st M = kC X 222 (i_ci (nI 1) 775 la st M) := evC ((pm222 X 774).trans rfl) la st M
set_option maxRecDepth 100000 in
theorem e222_775 (X : aX) (la : aLs) (st : List aV) (M : aM) : go X 222 775 la st M = kC X 222 (i_bin (fun x y => x + y) 776 la st M) := evC ((pm222 X 775).trans rfl) la st M
set_option maxRecDepth 100000 in
theorem e222_776 (X : aX) (la : aLs) (st : List aV) (M : aM) : go X 222 776 la st M = kC X 222 (i_ial X 777 la st M) := evC ((pm222 X 776).trans rfl) la st M
set_option maxRecDepth 100000 in
theorem e222_777 (X : aX) (la : aLs) (st : List aV) (M : aM) : go X 222 777 la st M = kC X 222 (i_lda 0 778 la st M) := evC ((pm222 X 777).trans rfl) la st M
set_option maxRecDepth 100000 in
theorem e222_778 (X : aX) (la : aLs) (st : List aV) (M : aM) : go X 222 778 la st M = kC X 222 (i_ldi 3 779 la st M) := evC ((pm222 X 778).trans rfl) la st M
set_option maxRecDepth 100000 in
theorem e222_779 (X : aX) (la : aLs) (st : List aV) (M : aM) : go X 222 779 la st M = kC X 222 (i_ci (nI 2) 780 la st M) := evC ((pm222 X 779).trans rfl) la st M
set_option maxRecDepth 100000 in
theorem e222_780 (X : aX) (la : aLs) (st : List aV) (M : aM) : go X 222 780 la st M = kC X 222 (i_bin (fun x y => x + y) 781 la st M) := evC ((pm222 X 780).trans rfl) la st M
set_option maxRecDepth 100000 in
theorem e222_781 (X : aX) (la : aLs) (st : List aV) (M : aM) : go X 222 781 la st M = kC X 222 (i_ial X 782 la st M) := evC ((pm222 X 781).trans rfl) la st M
set_option maxRecDepth 100000 in
theorem e222_782 (X : aX) (la : aLs) (st : List aV) (M : aM) : go X 222 782 la st M = kK X 222 81 3 785 6 la st M := evK ((pm222 X 782).trans rfl) la st M
set_option maxRecDepth 100000 in
theorem e222_785 (X : aX) (la : aLs) (st : List aV) (M : aM) : go X 222 785 la st M = kC X 222 (i_lda 2 786 la st M) := evC ((pm222 X 785).trans rfl) la st M
set_option maxRecDepth 100000 in
theorem e222_786 (X : aX) (la : aLs) (st : List aV) (M : aM) : go X 222 786 la st M = kC X 222 (i_lda 0 787 la st M) := evC ((pm222 X 786).trans rfl) la st M
set_option maxRecDepth 100000 in
theorem e222_787 (X : aX) (la : aLs) (st : List aV) (M : aM) : go X 222 787 la st M = kC X 222 (i_ldi 3 788 la st M) := evC ((pm222 X 787).trans rfl) la st M
set_option maxRecDepth 100000 in
theorem e222_788 (X : aX) (la : aLs) (st : List aV) (M : aM) : go X 222 788 la st M = kC X 222 (i_ci (nI 1) 789 la st M) := evC ((pm222 X 788).trans rfl) la st M
set_option maxRecDepth 100000 in
theorem e222_789 (X : aX) (la : aLs) (st : List aV) (M : aM) : go X 222 789 la st M = kC X 222 (i_bin (fun x y => x + y) 790 la st M) := evC ((pm222 X 789).trans rfl) la st M
set_option maxRecDepth 100000 in
theorem e222_790 (X : aX) (la : aLs) (st : List aV) (M : aM) : go X 222 790 la st M = kC X 222 (i_ial X 791 la st M) := evC ((pm222 X 790).trans rfl) la st M
set_option maxRecDepth 100000 in
theorem e222_791 (X : aX) (la : aLs) (st : List aV) (M : aM) : go X 222 791 la st M = kC X 222 (i_lda 0 792 la st M) := evC ((pm222 X 791).trans rfl) la st M
set_option maxRecDepth 100000 in
theorem e222_792 (X : aX) (la : aLs) (st : List aV) (M : aM) : go X 222 792 la st M = kC X 222 (i_ldi 3 793 la st M) := evC ((pm222 X 792).trans rfl) la st M
set_option maxRecDepth 100000 in
theorem e222_793 (X : aX) (la : aLs) (st : List aV) (M : aM) : go X 222 793 la st M = kC X 222 (i_ci (nI 2) 794 la st M) := evC ((pm222 X 793).trans rfl) la st M
set_option maxRecDepth 100000 in
theorem e222_794 (X : aX) (la : aLs) (st : List aV) (M : aM) : go X 222 794 la st M = kC X 222 (i_bin (fun x y => x + y) 795 la st M) := evC ((pm222 X 794).trans rfl) la st M
set_option maxRecDepth 100000 in
theorem e222_795 (X : aX) (la : aLs) (st : List aV) (M : aM) : go X 222 795 la st M = kC X 222 (i_ial X 796 la st M) := evC ((pm222 X 795).trans rfl) la st M
set_option maxRecDepth 100000 in
theorem e222_796 (X : aX) (la : aLs) (st : List aV) (M : aM) : go X 222 796 la st M = kK X 222 176 3 799 7 la st M := evK ((pm222 X 796).trans rfl) la st M
set_option maxRecDepth 100000 in
theorem e222_799 (X : aX) (la : aLs) (st : List aV) (M : aM) : go X 222 799 la st M = kC X 222 (i_cme 1322 802 la st M) := evC ((pm222 X 799).trans rfl) la st M
set_option maxRecDepth 100000 in
theorem e222_802 (X : aX) (la : aLs) (st : List aV) (M : aM) : go X 222 802 la st M = kC X 222 (i_ci (nI 0) 803 la st M) := evC ((pm222 X 802).trans rfl) la st M
set_option maxRecDepth 100000 in
theorem e222_803 (X : aX) (la : aLs) (st : List aV) (M : aM) : go X 222 803 la st M = i_zrt st M := evR ((pm222 X 803).trans rfl) la st M
set_option maxRecDepth 100000 in
theorem e222_804 (X : aX) (la : aLs) (st : List aV) (M : aM) : go X 222 804 la st M = kC X 222 (i_lda 1 805 la st M) := evC ((pm222 X 804).trans rfl) la st M
set_option maxRecDepth 100000 in
theorem e222_805 (X : aX) (la : aLs) (st : List aV) (M : aM) : go X 222 805 la st M = kC X 222 (i_lda 0 806 la st M) := evC ((pm222 X 805).trans rfl) la st M
set_option maxRecDepth 100000 in
theorem e222_806 (X : aX) (la : aLs) (st : List aV) (M : aM) : go X 222 806 la st M = kC X 222 (i_ldi 3 807 la st M) := evC ((pm222 X 806).trans rfl) la st M
set_option maxRecDepth 100000 in
theorem e222_807 (X : aX) (la : aLs) (st : List aV) (M : aM) : go X 222 807 la st M = kC X 222 (i_ci (nI 1) 808 la st M) := evC ((pm222 X 807).trans rfl) la st M
set_option maxRecDepth 100000 in
theorem e222_808 (X : aX) (la : aLs) (st : List aV) (M : aM) : go X 222 808 la st M = kC X 222 (i_bin (fun x y => x + y) 809 la st M) := evC ((pm222 X 808).trans rfl) la st M
set_option maxRecDepth 100000 in
theorem e222_809 (X : aX) (la : aLs) (st : List aV) (M : aM) : go X 222 809 la st M = kC X 222 (i_ial X 810 la st M) := evC ((pm222 X 809).trans rfl) la st M
set_option maxRecDepth 100000 in
theorem e222_810 (X : aX) (la : aLs) (st : List aV) (M : aM) : go X 222 810 la st M = kC X 222 (i_lda 0 811 la st M) := evC ((pm222 X 810).trans rfl) la st M
set_option maxRecDepth 100000 in
theorem e222_811 (X : aX) (la : aLs) (st : List aV) (M : aM) : go X 222 811 la st M = kC X 222 (i_ldi 3 812 la st M) := evC ((pm222 X 811).trans rfl) la st M
set_option maxRecDepth 100000 in
theorem e222_812 (X : aX) (la : aLs) (st : List aV) (M : aM) : go X 222 812 la st M = kC X 222 (i_ci (nI 2) 813 la st M) := evC ((pm222 X 812).trans rfl) la st M
set_option maxRecDepth 100000 in
theorem e222_813 (X : aX) (la : aLs) (st : List aV) (M : aM) : go X 222 813 la st M = kC X 222 (i_bin (fun x y => x + y) 814 la st M) := evC ((pm222 X 813).trans rfl) la st M
set_option maxRecDepth 100000 in
theorem e222_814 (X : aX) (la : aLs) (st : List aV) (M : aM) : go X 222 814 la st M = kC X 222 (i_ial X 815 la st M) := evC ((pm222 X 814).trans rfl) la st M
set_option maxRecDepth 100000 in
theorem e222_815 (X : aX) (la : aLs) (st : List aV) (M : aM) : go X 222 815 la st M = kK X 222 82 3 818 6 la st M := evK ((pm222 X 815).trans rfl) la st M
set_option maxRecDepth 100000 in
theorem e222_818 (X : aX) (la : aLs) (st : List aV) (M : aM) : go X 222 818 la st M = kC X 222 (i_lda 2 819 la st M) := evC ((pm222 X 818).trans rfl) la st M
set_option maxRecDepth 100000 in
theorem e222_819 (X : aX) (la : aLs) (st : List aV) (M : aM) : go X 222 819 la st M = kC X 222 (i_lda 0 820 la st M) := evC ((pm222 X 819).trans rfl) la st M
set_option maxRecDepth 100000 in
theorem e222_820 (X : aX) (la : aLs) (st : List aV) (M : aM) : go X 222 820 la st M = kC X 222 (i_ldi 3 821 la st M) := evC ((pm222 X 820).trans rfl) la st M
set_option maxRecDepth 100000 in
theorem e222_821 (X : aX) (la : aLs) (st : List aV) (M : aM) : go X 222 821 la st M = kC X 222 (i_ci (nI 1) 822 la st M) := evC ((pm222 X 821).trans rfl) la st M
set_option maxRecDepth 100000 in
theorem e222_822 (X : aX) (la : aLs) (st : List aV) (M : aM) : go X 222 822 la st M = kC X 222 (i_bin (fun x y => x + y) 823 la st M) := evC ((pm222 X 822).trans rfl) la st M
set_option maxRecDepth 100000 in
theorem e222_823 (X : aX) (la : aLs) (st : List aV) (M : aM) : go X 222 823 la st M = kC X 222 (i_ial X 824 la st M) := evC ((pm222 X 823).trans rfl) la st M
set_option maxRecDepth 100000 in
theorem e222_824 (X : aX) (la : aLs) (st : List aV) (M : aM) : go X 222 824 la st M = kC X 222 (i_lda 0 825 la st M) := evC ((pm222 X 824).trans rfl) la st M
set_option maxRecDepth 100000 in
theorem e222_825 (X : aX) (la : aLs) (st : List aV) (M : aM) : go X 222 825 la st M = kC X 222 (i_ldi 3 826 la st M) := evC ((pm222 X 825).trans rfl) la st M
set_option maxRecDepth 100000 in
theorem e222_826 (X : aX) (la : aLs) (st : List aV) (M : aM) : go X 222 826 la st M = kC X 222 (i_ci (nI 2) 827 la st M) := evC ((pm222 X 826).trans rfl) la st M
set_option maxRecDepth 100000 in
theorem e222_827 (X : aX) (la : aLs) (st : List aV) (M : aM) : go X 222 827 la st M = kC X 222 (i_bin (fun x y => x + y) 828 la st M) := evC ((pm222 X 827).trans rfl) la st M
set_option maxRecDepth 100000 in
theorem e222_828 (X : aX) (la : aLs) (st : List aV) (M : aM) : go X 222 828 la st M = kC X 222 (i_ial X 829 la st M) := evC ((pm222 X 828).trans rfl) la st M
set_option maxRecDepth 100000 in
theorem e222_829 (X : aX) (la : aLs) (st : List aV) (M : aM) : go X 222 829 la st M = kK X 222 177 3 832 7 la st M := evK ((pm222 X 829).trans rfl) la st M
set_option maxRecDepth 100000 in
theorem e222_832 (X : aX) (la : aLs) (st : List aV) (M : aM) : go X 222 832 la st M = kC X 222 (i_cme 1322 835 la st M) := evC ((pm222 X 832).trans rfl) la st M
set_option maxRecDepth 100000 in
theorem e222_835 (X : aX) (la : aLs) (st : List aV) (M : aM) : go X 222 835 la st M = kC X 222 (i_ci (nI 0) 836 la st M) := evC ((pm222 X 835).trans rfl) la st M
set_option maxRecDepth 100000 in
theorem e222_836 (X : aX) (la : aLs) (st : List aV) (M : aM) : go X 222 836 la st M = i_zrt st M := evR ((pm222 X 836).trans rfl) la st M
set_option maxRecDepth 100000 in
theorem e222_837 (X : aX) (la : aLs) (st : List aV) (M : aM) : go X 222 837 la st M = kC X 222 (i_lda 1 838 la st M) := evC ((pm222 X 837).trans rfl) la st M
set_option maxRecDepth 100000 in
theorem e222_838 (X : aX) (la : aLs) (st : List aV) (M : aM) : go X 222 838 la st M = kC X 222 (i_lda 0 839 la st M) := evC ((pm222 X 838).trans rfl) la st M
set_option maxRecDepth 100000 in
theorem e222_839 (X : aX) (la : aLs) (st : List aV) (M : aM) : go X 222 839 la st M = kC X 222 (i_ldi 3 840 la st M) := evC ((pm222 X 839).trans rfl) la st M
set_option maxRecDepth 100000 in
theorem e222_840 (X : aX) (la : aLs) (st : List aV) (M : aM) : go X 222 840 la st M = kC X 222 (i_ci (nI 1) 841 la st M) := evC ((pm222 X 840).trans rfl) la st M
set_option maxRecDepth 100000 in
theorem e222_841 (X : aX) (la : aLs) (st : List aV) (M : aM) : go X 222 841 la st M = kC X 222 (i_bin (fun x y => x + y) 842 la st M) := evC ((pm222 X 841).trans rfl) la st M
set_option maxRecDepth 100000 in
theorem e222_842 (X : aX) (la : aLs) (st : List aV) (M : aM) : go X 222 842 la st M = kC X 222 (i_ial X 843 la st M) := evC ((pm222 X 842).trans rfl) la st M
set_option maxRecDepth 100000 in
theorem e222_843 (X : aX) (la : aLs) (st : List aV) (M : aM) : go X 222 843 la st M = kK X 222 83 2 846 6 la st M := evK ((pm222 X 843).trans rfl) la st M
set_option maxRecDepth 100000 in
theorem e222_846 (X : aX) (la : aLs) (st : List aV) (M : aM) : go X 222 846 la st M = kC X 222 (i_lda 2 847 la st M) := evC ((pm222 X 846).trans rfl) la st M
set_option maxRecDepth 100000 in
theorem e222_847 (X : aX) (la : aLs) (st : List aV) (M : aM) : go X 222 847 la st M = kC X 222 (i_lda 0 848 la st M) := evC ((pm222 X 847).trans rfl) la st M
set_option maxRecDepth 100000 in
theorem e222_848 (X : aX) (la : aLs) (st : List aV) (M : aM) : go X 222 848 la st M = kC X 222 (i_ldi 3 849 la st M) := evC ((pm222 X 848).trans rfl) la st M
set_option maxRecDepth 100000 in
theorem e222_849 (X : aX) (la : aLs) (st : List aV) (M : aM) : go X 222 849 la st M = kC X 222 (i_ci (nI 1) 850 la st M) := evC ((pm222 X 849).trans rfl) la st M
set_option maxRecDepth 100000 in
theorem e222_850 (X : aX) (la : aLs) (st : List aV) (M : aM) : go X 222 850 la st M = kC X 222 (i_bin (fun x y => x + y) 851 la st M) := evC ((pm222 X 850).trans rfl) la st M
set_option maxRecDepth 100000 in
theorem e222_851 (X : aX) (la : aLs) (st : List aV) (M : aM) : go X 222 851 la st M = kC X 222 (i_ial X 852 la st M) := evC ((pm222 X 851).trans rfl) la st M
set_option maxRecDepth 100000 in
theorem e222_852 (X : aX) (la : aLs) (st : List aV) (M : aM) : go X 222 852 la st M = kK X 222 179 2 855 7 la st M := evK ((pm222 X 852).trans rfl) la st M
set_option maxRecDepth 100000 in
theorem e222_855 (X : aX) (la : aLs) (st : List aV) (M : aM) : go X 222 855 la st M = kC X 222 (i_cme 1322 858 la st M) := evC ((pm222 X 855).trans rfl) la st M
set_option maxRecDepth 100000 in
theorem e222_858 (X : aX) (la : aLs) (st : List aV) (M : aM) : go X 222 858 la st M = kC X 222 (i_ci (nI 0) 859 la st M) := evC ((pm222 X 858).trans rfl) la st M
set_option maxRecDepth 100000 in
theorem e222_859 (X : aX) (la : aLs) (st : List aV) (M : aM) : go X 222 859 la st M = i_zrt st M := evR ((pm222 X 859).trans rfl) la st M
set_option maxRecDepth 100000 in
theorem e222_860 (X : aX) (la : aLs) (st : List aV) (M : aM) : go X 222 860 la st M = kC X 222 (i_lda 1 861 la st M) := evC ((pm222 X 860).trans rfl) la st M
set_option maxRecDepth 100000 in
theorem e222_861 (X : aX) (la : aLs) (st : List aV) (M : aM) : go X 222 861 la st M = kC X 222 (i_lda 0 862 la st M) := evC ((pm222 X 861).trans rfl) la st M
set_option maxRecDepth 100000 in
theorem e222_862 (X : aX) (la : aLs) (st : List aV) (M : aM) : go X 222 862 la st M = kC X 222 (i_ldi 3 863 la st M) := evC ((pm222 X 862).trans rfl) la st M
set_option maxRecDepth 100000 in
theorem e222_863 (X : aX) (la : aLs) (st : List aV) (M : aM) : go X 222 863 la st M = kC X 222 (i_ci (nI 1) 864 la st M) := evC ((pm222 X 863).trans rfl) la st M
set_option maxRecDepth 100000 in
theorem e222_864 (X : aX) (la : aLs) (st : List aV) (M : aM) : go X 222 864 la st M = kC X 222 (i_bin (fun x y => x + y) 865 la st M) := evC ((pm222 X 864).trans rfl) la st M
set_option maxRecDepth 100000 in
theorem e222_865 (X : aX) (la : aLs) (st : List aV) (M : aM) : go X 222 865 la st M = kC X 222 (i_ial X 866 la st M) := evC ((pm222 X 865).trans rfl) la st M
set_option maxRecDepth 100000 in
theorem e222_866 (X : aX) (la : aLs) (st : List aV) (M : aM) : go X 222 866 la st M = kC X 222 (i_lda 0 867 la st M) := evC ((pm222 X 866).trans rfl) la st M
set_option maxRecDepth 100000 in
theorem e222_867 (X : aX) (la : aLs) (st : List aV) (M : aM) : go X 222 867 la st M = kC X 222 (i_ldi 3 868 la st M) := evC ((pm222 X 867).trans rfl) la st M
set_option maxRecDepth 100000 in
theorem e222_868 (X : aX) (la : aLs) (st : List aV) (M : aM) : go X 222 868 la st M = kC X 222 (i_ci (nI 2) 869 la st M) := evC ((pm222 X 868).trans rfl) la st M
set_option maxRecDepth 100000 in
theorem e222_869 (X : aX) (la : aLs) (st : List aV) (M : aM) : go X 222 869 la st M = kC X 222 (i_bin (fun x y => x + y) 870 la st M) := evC ((pm222 X 869).trans rfl) la st M
set_option maxRecDepth 100000 in
theorem e222_870 (X : aX) (la : aLs) (st : List aV) (M : aM) : go X 222 870 la st M = kC X 222 (i_ial X 871 la st M) := evC ((pm222 X 870).trans rfl) la st M
set_option maxRecDepth 100000 in
theorem e222_871 (X : aX) (la : aLs) (st : List aV) (M : aM) : go X 222 871 la st M = kK X 222 84 3 874 6 la st M := evK ((pm222 X 871).trans rfl) la st M
set_option maxRecDepth 100000 in
theorem e222_874 (X : aX) (la : aLs) (st : List aV) (M : aM) : go X 222 874 la st M = kC X 222 (i_lda 2 875 la st M) := evC ((pm222 X 874).trans rfl) la st M
set_option maxRecDepth 100000 in
theorem e222_875 (X : aX) (la : aLs) (st : List aV) (M : aM) : go X 222 875 la st M = kC X 222 (i_lda 0 876 la st M) := evC ((pm222 X 875).trans rfl) la st M
set_option maxRecDepth 100000 in
theorem e222_876 (X : aX) (la : aLs) (st : List aV) (M : aM) : go X 222 876 la st M = kC X 222 (i_ldi 3 877 la st M) := evC ((pm222 X 876).trans rfl) la st M
set_option maxRecDepth 100000 in
theorem e222_877 (X : aX) (la : aLs) (st : List aV) (M : aM) : go X 222 877 la st M = kC X 222 (i_ci (nI 1) 878 la st M) := evC ((pm222 X 877).trans rfl) la st M
set_option maxRecDepth 100000 in
theorem e222_878 (X : aX) (la : aLs) (st : List aV) (M : aM) : go X 222 878 la st M = kC X 222 (i_bin (fun x y => x + y) 879 la st M) := evC ((pm222 X 878).trans rfl) la st M
set_option maxRecDepth 100000 in
theorem e222_879 (X : aX) (la : aLs) (st : List aV) (M : aM) : go X 222 879 la st M = kC X 222 (i_ial X 880 la st M) := evC ((pm222 X 879).trans rfl) la st M
set_option maxRecDepth 100000 in
theorem e222_880 (X : aX) (la : aLs) (st : List aV) (M : aM) : go X 222 880 la st M = kC X 222 (i_lda 0 881 la st M) := evC ((pm222 X 880).trans rfl) la st M
set_option maxRecDepth 100000 in
theorem e222_881 (X : aX) (la : aLs) (st : List aV) (M : aM) : go X 222 881 la st M = kC X 222 (i_ldi 3 882 la st M) := evC ((pm222 X 881).trans rfl) la st M
set_option maxRecDepth 100000 in
theorem e222_882 (X : aX) (la : aLs) (st : List aV) (M : aM) : go X 222 882 la st M = kC X 222 (i_ci (nI 2) 883 la st M) := evC ((pm222 X 882).trans rfl) la st M
set_option maxRecDepth 100000 in
theorem e222_883 (X : aX) (la : aLs) (st : List aV) (M : aM) : go X 222 883 la st M = kC X 222 (i_bin (fun x y => x + y) 884 la st M) := evC ((pm222 X 883).trans rfl) la st M
set_option maxRecDepth 100000 in
theorem e222_884 (X : aX) (la : aLs) (st : List aV) (M : aM) : go X 222 884 la st M = kC X 222 (i_ial X 885 la st M) := evC ((pm222 X 884).trans rfl) la st M
set_option maxRecDepth 100000 in
theorem e222_885 (X : aX) (la : aLs) (st : List aV) (M : aM) : go X 222 885 la st M = kK X 222 181 3 888 7 la st M := evK ((pm222 X 885).trans rfl) la st M
set_option maxRecDepth 100000 in
theorem e222_888 (X : aX) (la : aLs) (st : List aV) (M : aM) : go X 222 888 la st M = kC X 222 (i_lcm 889 la st M) := evC ((pm222 X 888).trans rfl) la st M
set_option maxRecDepth 100000 in
theorem e222_889 (X : aX) (la : aLs) (st : List aV) (M : aM) : go X 222 889 la st M = kC X 222 (i_ife 1322 892 la st M) := evC ((pm222 X 889).trans rfl) la st M
set_option maxRecDepth 100000 in
theorem e222_892 (X : aX) (la : aLs) (st : List aV) (M : aM) : go X 222 892 la st M = kC X 222 (i_ci (nI 0) 893 la st M) := evC ((pm222 X 892).trans rfl) la st M
set_option maxRecDepth 100000 in
theorem e222_893 (X : aX) (la : aLs) (st : List aV) (M : aM) : go X 222 893 la st M = i_zrt st M := evR ((pm222 X 893).trans rfl) la st M
set_option maxRecDepth 100000 in
theorem e222_894 (X : aX) (la : aLs) (st : List aV) (M : aM) : go X 222 894 la st M = kC X 222 (i_lda 1 895 la st M) := evC ((pm222 X 894).trans rfl) la st M
set_option maxRecDepth 100000 in
theorem e222_895 (X : aX) (la : aLs) (st : List aV) (M : aM) : go X 222 895 la st M = kC X 222 (i_lda 0 896 la st M) := evC ((pm222 X 895).trans rfl) la st M
set_option maxRecDepth 100000 in
theorem e222_896 (X : aX) (la : aLs) (st : List aV) (M : aM) : go X 222 896 la st M = kC X 222 (i_ldi 3 897 la st M) := evC ((pm222 X 896).trans rfl) la st M
set_option maxRecDepth 100000 in
theorem e222_897 (X : aX) (la : aLs) (st : List aV) (M : aM) : go X 222 897 la st M = kC X 222 (i_ci (nI 1) 898 la st M) := evC ((pm222 X 897).trans rfl) la st M
set_option maxRecDepth 100000 in
theorem e222_898 (X : aX) (la : aLs) (st : List aV) (M : aM) : go X 222 898 la st M = kC X 222 (i_bin (fun x y => x + y) 899 la st M) := evC ((pm222 X 898).trans rfl) la st M
set_option maxRecDepth 100000 in
theorem e222_899 (X : aX) (la : aLs) (st : List aV) (M : aM) : go X 222 899 la st M = kC X 222 (i_ial X 900 la st M) := evC ((pm222 X 899).trans rfl) la st M
set_option maxRecDepth 100000 in
theorem e222_900 (X : aX) (la : aLs) (st : List aV) (M : aM) : go X 222 900 la st M = kK X 222 85 2 903 6 la st M := evK ((pm222 X 900).trans rfl) la st M
set_option maxRecDepth 100000 in
theorem e222_903 (X : aX) (la : aLs) (st : List aV) (M : aM) : go X 222 903 la st M = kC X 222 (i_lda 2 904 la st M) := evC ((pm222 X 903).trans rfl) la st M
set_option maxRecDepth 100000 in
theorem e222_904 (X : aX) (la : aLs) (st : List aV) (M : aM) : go X 222 904 la st M = kC X 222 (i_lda 0 905 la st M) := evC ((pm222 X 904).trans rfl) la st M
set_option maxRecDepth 100000 in
theorem e222_905 (X : aX) (la : aLs) (st : List aV) (M : aM) : go X 222 905 la st M = kC X 222 (i_ldi 3 906 la st M) := evC ((pm222 X 905).trans rfl) la st M
set_option maxRecDepth 100000 in
theorem e222_906 (X : aX) (la : aLs) (st : List aV) (M : aM) : go X 222 906 la st M = kC X 222 (i_ci (nI 1) 907 la st M) := evC ((pm222 X 906).trans rfl) la st M
set_option maxRecDepth 100000 in
theorem e222_907 (X : aX) (la : aLs) (st : List aV) (M : aM) : go X 222 907 la st M = kC X 222 (i_bin (fun x y => x + y) 908 la st M) := evC ((pm222 X 907).trans rfl) la st M
set_option maxRecDepth 100000 in
theorem e222_908 (X : aX) (la : aLs) (st : List aV) (M : aM) : go X 222 908 la st M = kC X 222 (i_ial X 909 la st M) := evC ((pm222 X 908).trans rfl) la st M
set_option maxRecDepth 100000 in
theorem e222_909 (X : aX) (la : aLs) (st : List aV) (M : aM) : go X 222 909 la st M = kK X 222 182 2 912 7 la st M := evK ((pm222 X 909).trans rfl) la st M
set_option maxRecDepth 100000 in
theorem e222_912 (X : aX) (la : aLs) (st : List aV) (M : aM) : go X 222 912 la st M = kC X 222 (i_cme 1322 915 la st M) := evC ((pm222 X 912).trans rfl) la st M
set_option maxRecDepth 100000 in
theorem e222_915 (X : aX) (la : aLs) (st : List aV) (M : aM) : go X 222 915 la st M = kC X 222 (i_ci (nI 0) 916 la st M) := evC ((pm222 X 915).trans rfl) la st M
set_option maxRecDepth 100000 in
theorem e222_916 (X : aX) (la : aLs) (st : List aV) (M : aM) : go X 222 916 la st M = i_zrt st M := evR ((pm222 X 916).trans rfl) la st M
set_option maxRecDepth 100000 in
theorem e222_917 (X : aX) (la : aLs) (st : List aV) (M : aM) : go X 222 917 la st M = kC X 222 (i_lda 1 918 la st M) := evC ((pm222 X 917).trans rfl) la st M
set_option maxRecDepth 100000 in
theorem e222_918 (X : aX) (la : aLs) (st : List aV) (M : aM) : go X 222 918 la st M = kC X 222 (i_lda 0 919 la st M) := evC ((pm222 X 918).trans rfl) la st M
set_option maxRecDepth 100000 in
theorem e222_919 (X : aX) (la : aLs) (st : List aV) (M : aM) : go X 222 919 la st M = kC X 222 (i_ldi 3 920 la st M) := evC ((pm222 X 919).trans rfl) la st M
set_option maxRecDepth 100000 in
theorem e222_920 (X : aX) (la : aLs) (st : List aV) (M : aM) : go X 222 920 la st M = kC X 222 (i_ci (nI 1) 921 la st M) := evC ((pm222 X 920).trans rfl) la st M
set_option maxRecDepth 100000 in
theorem e222_921 (X : aX) (la : aLs) (st : List aV) (M : aM) : go X 222 921 la st M = kC X 222 (i_bin (fun x y => x + y) 922 la st M) := evC ((pm222 X 921).trans rfl) la st M
set_option maxRecDepth 100000 in
theorem e222_922 (X : aX) (la : aLs) (st : List aV) (M : aM) : go X 222 922 la st M = kC X 222 (i_ial X 923 la st M) := evC ((pm222 X 922).trans rfl) la st M
set_option maxRecDepth 100000 in
theorem e222_923 (X : aX) (la : aLs) (st : List aV) (M : aM) : go X 222 923 la st M = kC X 222 (i_lda 0 924 la st M) := evC ((pm222 X 923).trans rfl) la st M
set_option maxRecDepth 100000 in
theorem e222_924 (X : aX) (la : aLs) (st : List aV) (M : aM) : go X 222 924 la st M = kC X 222 (i_ldi 3 925 la st M) := evC ((pm222 X 924).trans rfl) la st M
set_option maxRecDepth 100000 in
theorem e222_925 (X : aX) (la : aLs) (st : List aV) (M : aM) : go X 222 925 la st M = kC X 222 (i_ci (nI 2) 926 la st M) := evC ((pm222 X 925).trans rfl) la st M
set_option maxRecDepth 100000 in
theorem e222_926 (X : aX) (la : aLs) (st : List aV) (M : aM) : go X 222 926 la st M = kC X 222 (i_bin (fun x y => x + y) 927 la st M) := evC ((pm222 X 926).trans rfl) la st M
set_option maxRecDepth 100000 in
theorem e222_927 (X : aX) (la : aLs) (st : List aV) (M : aM) : go X 222 927 la st M = kC X 222 (i_ial X 928 la st M) := evC ((pm222 X 927).trans rfl) la st M
set_option maxRecDepth 100000 in
theorem e222_928 (X : aX) (la : aLs) (st : List aV) (M : aM) : go X 222 928 la st M = kK X 222 86 3 931 6 la st M := evK ((pm222 X 928).trans rfl) la st M
set_option maxRecDepth 100000 in
theorem e222_931 (X : aX) (la : aLs) (st : List aV) (M : aM) : go X 222 931 la st M = kC X 222 (i_lda 2 932 la st M) := evC ((pm222 X 931).trans rfl) la st M
set_option maxRecDepth 100000 in
theorem e222_932 (X : aX) (la : aLs) (st : List aV) (M : aM) : go X 222 932 la st M = kC X 222 (i_lda 0 933 la st M) := evC ((pm222 X 932).trans rfl) la st M
set_option maxRecDepth 100000 in
theorem e222_933 (X : aX) (la : aLs) (st : List aV) (M : aM) : go X 222 933 la st M = kC X 222 (i_ldi 3 934 la st M) := evC ((pm222 X 933).trans rfl) la st M
set_option maxRecDepth 100000 in
theorem e222_934 (X : aX) (la : aLs) (st : List aV) (M : aM) : go X 222 934 la st M = kC X 222 (i_ci (nI 1) 935 la st M) := evC ((pm222 X 934).trans rfl) la st M
set_option maxRecDepth 100000 in
theorem e222_935 (X : aX) (la : aLs) (st : List aV) (M : aM) : go X 222 935 la st M = kC X 222 (i_bin (fun x y => x + y) 936 la st M) := evC ((pm222 X 935).trans rfl) la st M
set_option maxRecDepth 100000 in
theorem e222_936 (X : aX) (la : aLs) (st : List aV) (M : aM) : go X 222 936 la st M = kC X 222 (i_ial X 937 la st M) := evC ((pm222 X 936).trans rfl) la st M
set_option maxRecDepth 100000 in
theorem e222_937 (X : aX) (la : aLs) (st : List aV) (M : aM) : go X 222 937 la st M = kC X 222 (i_lda 0 938 la st M) := evC ((pm222 X 937).trans rfl) la st M
set_option maxRecDepth 100000 in
theorem e222_938 (X : aX) (la : aLs) (st : List aV) (M : aM) : go X 222 938 la st M = kC X 222 (i_ldi 3 939 la st M) := evC ((pm222 X 938).trans rfl) la st M
set_option maxRecDepth 100000 in
theorem e222_939 (X : aX) (la : aLs) (st : List aV) (M : aM) : go X 222 939 la st M = kC X 222 (i_ci (nI 2) 940 la st M) := evC ((pm222 X 939).trans rfl) la st M
set_option maxRecDepth 100000 in
theorem e222_940 (X : aX) (la : aLs) (st : List aV) (M : aM) : go X 222 940 la st M = kC X 222 (i_bin (fun x y => x + y) 941 la st M) := evC ((pm222 X 940).trans rfl) la st M
set_option maxRecDepth 100000 in
theorem e222_941 (X : aX) (la : aLs) (st : List aV) (M : aM) : go X 222 941 la st M = kC X 222 (i_ial X 942 la st M) := evC ((pm222 X 941).trans rfl) la st M
set_option maxRecDepth 100000 in
theorem e222_942 (X : aX) (la : aLs) (st : List aV) (M : aM) : go X 222 942 la st M = kK X 222 183 3 945 7 la st M := evK ((pm222 X 942).trans rfl) la st M
set_option maxRecDepth 100000 in
theorem e222_945 (X : aX) (la : aLs) (st : List aV) (M : aM) : go X 222 945 la st M = kC X 222 (i_cme 1322 948 la st M) := evC ((pm222 X 945).trans rfl) la st M
set_option maxRecDepth 100000 in
theorem e222_948 (X : aX) (la : aLs) (st : List aV) (M : aM) : go X 222 948 la st M = kC X 222 (i_ci (nI 0) 949 la st M) := evC ((pm222 X 948).trans rfl) la st M
set_option maxRecDepth 100000 in
theorem e222_949 (X : aX) (la : aLs) (st : List aV) (M : aM) : go X 222 949 la st M = i_zrt st M := evR ((pm222 X 949).trans rfl) la st M
set_option maxRecDepth 100000 in
theorem e222_950 (X : aX) (la : aLs) (st : List aV) (M : aM) : go X 222 950 la st M = kC X 222 (i_lda 1 951 la st M) := evC ((pm222 X 950).trans rfl) la st M
set_option maxRecDepth 100000 in
theorem e222_951 (X : aX) (la : aLs) (st : List aV) (M : aM) : go X 222 951 la st M = kK X 222 87 1 954 6 la st M := evK ((pm222 X 951).trans rfl) la st M
set_option maxRecDepth 100000 in
theorem e222_954 (X : aX) (la : aLs) (st : List aV) (M : aM) : go X 222 954 la st M = kC X 222 (i_lda 2 955 la st M) := evC ((pm222 X 954).trans rfl) la st M
set_option maxRecDepth 100000 in
theorem e222_955 (X : aX) (la : aLs) (st : List aV) (M : aM) : go X 222 955 la st M = kK X 222 184 1 958 7 la st M := evK ((pm222 X 955).trans rfl) la st M
set_option maxRecDepth 100000 in
theorem e222_958 (X : aX) (la : aLs) (st : List aV) (M : aM) : go X 222 958 la st M = kC X 222 (i_cme 1322 961 la st M) := evC ((pm222 X 958).trans rfl) la st M
set_option maxRecDepth 100000 in
theorem e222_961 (X : aX) (la : aLs) (st : List aV) (M : aM) : go X 222 961 la st M = kC X 222 (i_ci (nI 0) 962 la st M) := evC ((pm222 X 961).trans rfl) la st M
set_option maxRecDepth 100000 in
theorem e222_962 (X : aX) (la : aLs) (st : List aV) (M : aM) : go X 222 962 la st M = i_zrt st M := evR ((pm222 X 962).trans rfl) la st M
set_option maxRecDepth 100000 in
theorem e222_963 (X : aX) (la : aLs) (st : List aV) (M : aM) : go X 222 963 la st M = kC X 222 (i_lda 1 964 la st M) := evC ((pm222 X 963).trans rfl) la st M
set_option maxRecDepth 100000 in
theorem e222_964 (X : aX) (la : aLs) (st : List aV) (M : aM) : go X 222 964 la st M = kK X 222 88 1 967 6 la st M := evK ((pm222 X 964).trans rfl) la st M
set_option maxRecDepth 100000 in
theorem e222_967 (X : aX) (la : aLs) (st : List aV) (M : aM) : go X 222 967 la st M = kC X 222 (i_lda 2 968 la st M) := evC ((pm222 X 967).trans rfl) la st M
set_option maxRecDepth 100000 in
theorem e222_968 (X : aX) (la : aLs) (st : List aV) (M : aM) : go X 222 968 la st M = kK X 222 195 1 971 7 la st M := evK ((pm222 X 968).trans rfl) la st M
set_option maxRecDepth 100000 in
theorem e222_971 (X : aX) (la : aLs) (st : List aV) (M : aM) : go X 222 971 la st M = kC X 222 (i_cme 1322 974 la st M) := evC ((pm222 X 971).trans rfl) la st M
set_option maxRecDepth 100000 in
theorem e222_974 (X : aX) (la : aLs) (st : List aV) (M : aM) : go X 222 974 la st M = kC X 222 (i_ci (nI 0) 975 la st M) := evC ((pm222 X 974).trans rfl) la st M
set_option maxRecDepth 100000 in
theorem e222_975 (X : aX) (la : aLs) (st : List aV) (M : aM) : go X 222 975 la st M = i_zrt st M := evR ((pm222 X 975).trans rfl) la st M
set_option maxRecDepth 100000 in
theorem e222_976 (X : aX) (la : aLs) (st : List aV) (M : aM) : go X 222 976 la st M = kC X 222 (i_lda 1 977 la st M) := evC ((pm222 X 976).trans rfl) la st M
set_option maxRecDepth 100000 in
theorem e222_977 (X : aX) (la : aLs) (st : List aV) (M : aM) : go X 222 977 la st M = kC X 222 (i_lda 0 978 la st M) := evC ((pm222 X 977).trans rfl) la st M
set_option maxRecDepth 100000 in
theorem e222_978 (X : aX) (la : aLs) (st : List aV) (M : aM) : go X 222 978 la st M = kC X 222 (i_ldi 3 979 la st M) := evC ((pm222 X 978).trans rfl) la st M
set_option maxRecDepth 100000 in
theorem e222_979 (X : aX) (la : aLs) (st : List aV) (M : aM) : go X 222 979 la st M = kC X 222 (i_ci (nI 1) 980 la st M) := evC ((pm222 X 979).trans rfl) la st M
set_option maxRecDepth 100000 in
theorem e222_980 (X : aX) (la : aLs) (st : List aV) (M : aM) : go X 222 980 la st M = kC X 222 (i_bin (fun x y => x + y) 981 la st M) := evC ((pm222 X 980).trans rfl) la st M
set_option maxRecDepth 100000 in
theorem e222_981 (X : aX) (la : aLs) (st : List aV) (M : aM) : go X 222 981 la st M = kC X 222 (i_ial X 982 la st M) := evC ((pm222 X 981).trans rfl) la st M
set_option maxRecDepth 100000 in
theorem e222_982 (X : aX) (la : aLs) (st : List aV) (M : aM) : go X 222 982 la st M = kC X 222 (i_lda 0 983 la st M) := evC ((pm222 X 982).trans rfl) la st M
set_option maxRecDepth 100000 in
theorem e222_983 (X : aX) (la : aLs) (st : List aV) (M : aM) : go X 222 983 la st M = kC X 222 (i_ldi 3 984 la st M) := evC ((pm222 X 983).trans rfl) la st M
set_option maxRecDepth 100000 in
theorem e222_984 (X : aX) (la : aLs) (st : List aV) (M : aM) : go X 222 984 la st M = kC X 222 (i_ci (nI 2) 985 la st M) := evC ((pm222 X 984).trans rfl) la st M
set_option maxRecDepth 100000 in
theorem e222_985 (X : aX) (la : aLs) (st : List aV) (M : aM) : go X 222 985 la st M = kC X 222 (i_bin (fun x y => x + y) 986 la st M) := evC ((pm222 X 985).trans rfl) la st M
set_option maxRecDepth 100000 in
theorem e222_986 (X : aX) (la : aLs) (st : List aV) (M : aM) : go X 222 986 la st M = kC X 222 (i_ial X 987 la st M) := evC ((pm222 X 986).trans rfl) la st M
set_option maxRecDepth 100000 in
theorem e222_987 (X : aX) (la : aLs) (st : List aV) (M : aM) : go X 222 987 la st M = kK X 222 89 3 990 6 la st M := evK ((pm222 X 987).trans rfl) la st M
set_option maxRecDepth 100000 in
theorem e222_990 (X : aX) (la : aLs) (st : List aV) (M : aM) : go X 222 990 la st M = kC X 222 (i_lda 2 991 la st M) := evC ((pm222 X 990).trans rfl) la st M
set_option maxRecDepth 100000 in
theorem e222_991 (X : aX) (la : aLs) (st : List aV) (M : aM) : go X 222 991 la st M = kC X 222 (i_lda 0 992 la st M) := evC ((pm222 X 991).trans rfl) la st M
set_option maxRecDepth 100000 in
theorem e222_992 (X : aX) (la : aLs) (st : List aV) (M : aM) : go X 222 992 la st M = kC X 222 (i_ldi 3 993 la st M) := evC ((pm222 X 992).trans rfl) la st M
set_option maxRecDepth 100000 in
theorem e222_993 (X : aX) (la : aLs) (st : List aV) (M : aM) : go X 222 993 la st M = kC X 222 (i_ci (nI 1) 994 la st M) := evC ((pm222 X 993).trans rfl) la st M
set_option maxRecDepth 100000 in
theorem e222_994 (X : aX) (la : aLs) (st : List aV) (M : aM) : go X 222 994 la st M = kC X 222 (i_bin (fun x y => x + y) 995 la st M) := evC ((pm222 X 994).trans rfl) la st M
set_option maxRecDepth 100000 in
theorem e222_995 (X : aX) (la : aLs) (st : List aV) (M : aM) : go X 222 995 la st M = kC X 222 (i_ial X 996 la st M) := evC ((pm222 X 995).trans rfl) la st M
set_option maxRecDepth 100000 in
theorem e222_996 (X : aX) (la : aLs) (st : List aV) (M : aM) : go X 222 996 la st M = kC X 222 (i_lda 0 997 la st M) := evC ((pm222 X 996).trans rfl) la st M
set_option maxRecDepth 100000 in
theorem e222_997 (X : aX) (la : aLs) (st : List aV) (M : aM) : go X 222 997 la st M = kC X 222 (i_ldi 3 998 la st M) := evC ((pm222 X 997).trans rfl) la st M
set_option maxRecDepth 100000 in
theorem e222_998 (X : aX) (la : aLs) (st : List aV) (M : aM) : go X 222 998 la st M = kC X 222 (i_ci (nI 2) 999 la st M) := evC ((pm222 X 998).trans rfl) la st M
set_option maxRecDepth 100000 in
theorem e222_999 (X : aX) (la : aLs) (st : List aV) (M : aM) : go X 222 999 la st M = kC X 222 (i_bin (fun x y => x + y) 1000 la st M) := evC ((pm222 X 999).trans rfl) la st M
set_option maxRecDepth 100000 in
theorem e222_1000 (X : aX) (la : aLs) (st : List aV) (M : aM) : go X 222 1000 la st M = kC X 222 (i_ial X 1001 la st M) := evC ((pm222 X 1000).trans rfl) la st M
set_option maxRecDepth 100000 in
theorem e222_1001 (X : aX) (la : aLs) (st : List aV) (M : aM) : go X 222 1001 la st M = kK X 222 197 3 1004 7 la st M := evK ((pm222 X 1001).trans rfl) la st M
set_option maxRecDepth 100000 in
theorem e222_1004 (X : aX) (la : aLs) (st : List aV) (M : aM) : go X 222 1004 la st M = kC X 222 (i_cme 1322 1007 la st M) := evC ((pm222 X 1004).trans rfl) la st M
set_option maxRecDepth 100000 in
theorem e222_1007 (X : aX) (la : aLs) (st : List aV) (M : aM) : go X 222 1007 la st M = kC X 222 (i_ci (nI 0) 1008 la st M) := evC ((pm222 X 1007).trans rfl) la st M
set_option maxRecDepth 100000 in
theorem e222_1008 (X : aX) (la : aLs) (st : List aV) (M : aM) : go X 222 1008 la st M = i_zrt st M := evR ((pm222 X 1008).trans rfl) la st M
set_option maxRecDepth 100000 in
theorem e222_1009 (X : aX) (la : aLs) (st : List aV) (M : aM) : go X 222 1009 la st M = kC X 222 (i_lda 1 1010 la st M) := evC ((pm222 X 1009).trans rfl) la st M
set_option maxRecDepth 100000 in
theorem e222_1010 (X : aX) (la : aLs) (st : List aV) (M : aM) : go X 222 1010 la st M = kC X 222 (i_lda 0 1011 la st M) := evC ((pm222 X 1010).trans rfl) la st M
set_option maxRecDepth 100000 in
theorem e222_1011 (X : aX) (la : aLs) (st : List aV) (M : aM) : go X 222 1011 la st M = kC X 222 (i_ldi 3 1012 la st M) := evC ((pm222 X 1011).trans rfl) la st M
set_option maxRecDepth 100000 in
theorem e222_1012 (X : aX) (la : aLs) (st : List aV) (M : aM) : go X 222 1012 la st M = kC X 222 (i_ci (nI 1) 1013 la st M) := evC ((pm222 X 1012).trans rfl) la st M
set_option maxRecDepth 100000 in
theorem e222_1013 (X : aX) (la : aLs) (st : List aV) (M : aM) : go X 222 1013 la st M = kC X 222 (i_bin (fun x y => x + y) 1014 la st M) := evC ((pm222 X 1013).trans rfl) la st M
set_option maxRecDepth 100000 in
theorem e222_1014 (X : aX) (la : aLs) (st : List aV) (M : aM) : go X 222 1014 la st M = kC X 222 (i_ial X 1015 la st M) := evC ((pm222 X 1014).trans rfl) la st M
set_option maxRecDepth 100000 in
theorem e222_1015 (X : aX) (la : aLs) (st : List aV) (M : aM) : go X 222 1015 la st M = kC X 222 (i_lda 0 1016 la st M) := evC ((pm222 X 1015).trans rfl) la st M
set_option maxRecDepth 100000 in
theorem e222_1016 (X : aX) (la : aLs) (st : List aV) (M : aM) : go X 222 1016 la st M = kC X 222 (i_ldi 3 1017 la st M) := evC ((pm222 X 1016).trans rfl) la st M
set_option maxRecDepth 100000 in
theorem e222_1017 (X : aX) (la : aLs) (st : List aV) (M : aM) : go X 222 1017 la st M = kC X 222 (i_ci (nI 2) 1018 la st M) := evC ((pm222 X 1017).trans rfl) la st M
set_option maxRecDepth 100000 in
theorem e222_1018 (X : aX) (la : aLs) (st : List aV) (M : aM) : go X 222 1018 la st M = kC X 222 (i_bin (fun x y => x + y) 1019 la st M) := evC ((pm222 X 1018).trans rfl) la st M
set_option maxRecDepth 100000 in
theorem e222_1019 (X : aX) (la : aLs) (st : List aV) (M : aM) : go X 222 1019 la st M = kC X 222 (i_ial X 1020 la st M) := evC ((pm222 X 1019).trans rfl) la st M
set_option maxRecDepth 100000 in
theorem e222_1020 (X : aX) (la : aLs) (st : List aV) (M : aM) : go X 222 1020 la st M = kK X 222 90 3 1023 6 la st M := evK ((pm222 X 1020).trans rfl) la st M
set_option maxRecDepth 100000 in
theorem e222_1023 (X : aX) (la : aLs) (st : List aV) (M : aM) : go X 222 1023 la st M = kC X 222 (i_lda 2 1024 la st M) := evC ((pm222 X 1023).trans rfl) la st M
set_option maxRecDepth 100000 in
theorem e222_1024 (X : aX) (la : aLs) (st : List aV) (M : aM) : go X 222 1024 la st M = kC X 222 (i_lda 0 1025 la st M) := evC ((pm222 X 1024).trans rfl) la st M
set_option maxRecDepth 100000 in
theorem e222_1025 (X : aX) (la : aLs) (st : List aV) (M : aM) : go X 222 1025 la st M = kC X 222 (i_ldi 3 1026 la st M) := evC ((pm222 X 1025).trans rfl) la st M
set_option maxRecDepth 100000 in
theorem e222_1026 (X : aX) (la : aLs) (st : List aV) (M : aM) : go X 222 1026 la st M = kC X 222 (i_ci (nI 1) 1027 la st M) := evC ((pm222 X 1026).trans rfl) la st M
set_option maxRecDepth 100000 in
theorem e222_1027 (X : aX) (la : aLs) (st : List aV) (M : aM) : go X 222 1027 la st M = kC X 222 (i_bin (fun x y => x + y) 1028 la st M) := evC ((pm222 X 1027).trans rfl) la st M
set_option maxRecDepth 100000 in
theorem e222_1028 (X : aX) (la : aLs) (st : List aV) (M : aM) : go X 222 1028 la st M = kC X 222 (i_ial X 1029 la st M) := evC ((pm222 X 1028).trans rfl) la st M
set_option maxRecDepth 100000 in
theorem e222_1029 (X : aX) (la : aLs) (st : List aV) (M : aM) : go X 222 1029 la st M = kC X 222 (i_lda 0 1030 la st M) := evC ((pm222 X 1029).trans rfl) la st M
set_option maxRecDepth 100000 in
theorem e222_1030 (X : aX) (la : aLs) (st : List aV) (M : aM) : go X 222 1030 la st M = kC X 222 (i_ldi 3 1031 la st M) := evC ((pm222 X 1030).trans rfl) la st M
set_option maxRecDepth 100000 in
theorem e222_1031 (X : aX) (la : aLs) (st : List aV) (M : aM) : go X 222 1031 la st M = kC X 222 (i_ci (nI 2) 1032 la st M) := evC ((pm222 X 1031).trans rfl) la st M
set_option maxRecDepth 100000 in
theorem e222_1032 (X : aX) (la : aLs) (st : List aV) (M : aM) : go X 222 1032 la st M = kC X 222 (i_bin (fun x y => x + y) 1033 la st M) := evC ((pm222 X 1032).trans rfl) la st M
set_option maxRecDepth 100000 in
theorem e222_1033 (X : aX) (la : aLs) (st : List aV) (M : aM) : go X 222 1033 la st M = kC X 222 (i_ial X 1034 la st M) := evC ((pm222 X 1033).trans rfl) la st M
set_option maxRecDepth 100000 in
theorem e222_1034 (X : aX) (la : aLs) (st : List aV) (M : aM) : go X 222 1034 la st M = kK X 222 198 3 1037 7 la st M := evK ((pm222 X 1034).trans rfl) la st M
set_option maxRecDepth 100000 in
theorem e222_1037 (X : aX) (la : aLs) (st : List aV) (M : aM) : go X 222 1037 la st M = kC X 222 (i_cme 1322 1040 la st M) := evC ((pm222 X 1037).trans rfl) la st M
set_option maxRecDepth 100000 in
theorem e222_1040 (X : aX) (la : aLs) (st : List aV) (M : aM) : go X 222 1040 la st M = kC X 222 (i_ci (nI 0) 1041 la st M) := evC ((pm222 X 1040).trans rfl) la st M
set_option maxRecDepth 100000 in
theorem e222_1041 (X : aX) (la : aLs) (st : List aV) (M : aM) : go X 222 1041 la st M = i_zrt st M := evR ((pm222 X 1041).trans rfl) la st M
set_option maxRecDepth 100000 in
theorem e222_1042 (X : aX) (la : aLs) (st : List aV) (M : aM) : go X 222 1042 la st M = kC X 222 (i_lda 1 1043 la st M) := evC ((pm222 X 1042).trans rfl) la st M
set_option maxRecDepth 100000 in
theorem e222_1043 (X : aX) (la : aLs) (st : List aV) (M : aM) : go X 222 1043 la st M = kC X 222 (i_lda 0 1044 la st M) := evC ((pm222 X 1043).trans rfl) la st M
set_option maxRecDepth 100000 in
theorem e222_1044 (X : aX) (la : aLs) (st : List aV) (M : aM) : go X 222 1044 la st M = kC X 222 (i_ldi 3 1045 la st M) := evC ((pm222 X 1044).trans rfl) la st M
set_option maxRecDepth 100000 in
theorem e222_1045 (X : aX) (la : aLs) (st : List aV) (M : aM) : go X 222 1045 la st M = kC X 222 (i_ci (nI 1) 1046 la st M) := evC ((pm222 X 1045).trans rfl) la st M
set_option maxRecDepth 100000 in
theorem e222_1046 (X : aX) (la : aLs) (st : List aV) (M : aM) : go X 222 1046 la st M = kC X 222 (i_bin (fun x y => x + y) 1047 la st M) := evC ((pm222 X 1046).trans rfl) la st M
set_option maxRecDepth 100000 in
theorem e222_1047 (X : aX) (la : aLs) (st : List aV) (M : aM) : go X 222 1047 la st M = kC X 222 (i_ial X 1048 la st M) := evC ((pm222 X 1047).trans rfl) la st M
set_option maxRecDepth 100000 in
theorem e222_1048 (X : aX) (la : aLs) (st : List aV) (M : aM) : go X 222 1048 la st M = kC X 222 (i_lda 0 1049 la st M) := evC ((pm222 X 1048).trans rfl) la st M
set_option maxRecDepth 100000 in
theorem e222_1049 (X : aX) (la : aLs) (st : List aV) (M : aM) : go X 222 1049 la st M = kC X 222 (i_ldi 3 1050 la st M) := evC ((pm222 X 1049).trans rfl) la st M
set_option maxRecDepth 100000 in
theorem e222_1050 (X : aX) (la : aLs) (st : List aV) (M : aM) : go X 222 1050 la st M = kC X 222 (i_ci (nI 2) 1051 la st M) := evC ((pm222 X 1050).trans rfl) la st M
set_option maxRecDepth 100000 in
theorem e222_1051 (X : aX) (la : aLs) (st : List aV) (M : aM) : go X 222 1051 la st M = kC X 222 (i_bin (fun x y => x + y) 1052 la st M) := evC ((pm222 X 1051).trans rfl) la st M
set_option maxRecDepth 100000 in
theorem e222_1052 (X : aX) (la : aLs) (st : List aV) (M : aM) : go X 222 1052 la st M = kC X 222 (i_ial X 1053 la st M) := evC ((pm222 X 1052).trans rfl) la st M
set_option maxRecDepth 100000 in
theorem e222_1053 (X : aX) (la : aLs) (st : List aV) (M : aM) : go X 222 1053 la st M = kC X 222 (i_lda 0 1054 la st M) := evC ((pm222 X 1053).trans rfl) la st M
set_option maxRecDepth 100000 in
theorem e222_1054 (X : aX) (la : aLs) (st : List aV) (M : aM) : go X 222 1054 la st M = kC X 222 (i_ldi 3 1055 la st M) := evC ((pm222 X 1054).trans rfl) la st M
set_option maxRecDepth 100000 in
theorem e222_1055 (X : aX) (la : aLs) (st : List aV) (M : aM) : go X 222 1055 la st M = kC X 222 (i_ci (nI 3) 1056 la st M) := evC ((pm222 X 1055).trans rfl) la st M
set_option maxRecDepth 100000 in
theorem e222_1056 (X : aX) (la : aLs) (st : List aV) (M : aM) : go X 222 1056 la st M = kC X 222 (i_bin (fun x y => x + y) 1057 la st M) := evC ((pm222 X 1056).trans rfl) la st M
set_option maxRecDepth 100000 in
theorem e222_1057 (X : aX) (la : aLs) (st : List aV) (M : aM) : go X 222 1057 la st M = kC X 222 (i_ial X 1058 la st M) := evC ((pm222 X 1057).trans rfl) la st M
set_option maxRecDepth 100000 in
theorem e222_1058 (X : aX) (la : aLs) (st : List aV) (M : aM) : go X 222 1058 la st M = kK X 222 91 4 1061 6 la st M := evK ((pm222 X 1058).trans rfl) la st M
set_option maxRecDepth 100000 in
theorem e222_1061 (X : aX) (la : aLs) (st : List aV) (M : aM) : go X 222 1061 la st M = kC X 222 (i_lda 2 1062 la st M) := evC ((pm222 X 1061).trans rfl) la st M
set_option maxRecDepth 100000 in
theorem e222_1062 (X : aX) (la : aLs) (st : List aV) (M : aM) : go X 222 1062 la st M = kC X 222 (i_lda 0 1063 la st M) := evC ((pm222 X 1062).trans rfl) la st M
set_option maxRecDepth 100000 in
theorem e222_1063 (X : aX) (la : aLs) (st : List aV) (M : aM) : go X 222 1063 la st M = kC X 222 (i_ldi 3 1064 la st M) := evC ((pm222 X 1063).trans rfl) la st M
set_option maxRecDepth 100000 in
theorem e222_1064 (X : aX) (la : aLs) (st : List aV) (M : aM) : go X 222 1064 la st M = kC X 222 (i_ci (nI 1) 1065 la st M) := evC ((pm222 X 1064).trans rfl) la st M
set_option maxRecDepth 100000 in
theorem e222_1065 (X : aX) (la : aLs) (st : List aV) (M : aM) : go X 222 1065 la st M = kC X 222 (i_bin (fun x y => x + y) 1066 la st M) := evC ((pm222 X 1065).trans rfl) la st M
set_option maxRecDepth 100000 in
theorem e222_1066 (X : aX) (la : aLs) (st : List aV) (M : aM) : go X 222 1066 la st M = kC X 222 (i_ial X 1067 la st M) := evC ((pm222 X 1066).trans rfl) la st M
set_option maxRecDepth 100000 in
theorem e222_1067 (X : aX) (la : aLs) (st : List aV) (M : aM) : go X 222 1067 la st M = kC X 222 (i_lda 0 1068 la st M) := evC ((pm222 X 1067).trans rfl) la st M
set_option maxRecDepth 100000 in
theorem e222_1068 (X : aX) (la : aLs) (st : List aV) (M : aM) : go X 222 1068 la st M = kC X 222 (i_ldi 3 1069 la st M) := evC ((pm222 X 1068).trans rfl) la st M
set_option maxRecDepth 100000 in
theorem e222_1069 (X : aX) (la : aLs) (st : List aV) (M : aM) : go X 222 1069 la st M = kC X 222 (i_ci (nI 2) 1070 la st M) := evC ((pm222 X 1069).trans rfl) la st M
set_option maxRecDepth 100000 in
theorem e222_1070 (X : aX) (la : aLs) (st : List aV) (M : aM) : go X 222 1070 la st M = kC X 222 (i_bin (fun x y => x + y) 1071 la st M) := evC ((pm222 X 1070).trans rfl) la st M
set_option maxRecDepth 100000 in
theorem e222_1071 (X : aX) (la : aLs) (st : List aV) (M : aM) : go X 222 1071 la st M = kC X 222 (i_ial X 1072 la st M) := evC ((pm222 X 1071).trans rfl) la st M
set_option maxRecDepth 100000 in
theorem e222_1072 (X : aX) (la : aLs) (st : List aV) (M : aM) : go X 222 1072 la st M = kC X 222 (i_lda 0 1073 la st M) := evC ((pm222 X 1072).trans rfl) la st M
set_option maxRecDepth 100000 in
theorem e222_1073 (X : aX) (la : aLs) (st : List aV) (M : aM) : go X 222 1073 la st M = kC X 222 (i_ldi 3 1074 la st M) := evC ((pm222 X 1073).trans rfl) la st M
set_option maxRecDepth 100000 in
theorem e222_1074 (X : aX) (la : aLs) (st : List aV) (M : aM) : go X 222 1074 la st M = kC X 222 (i_ci (nI 3) 1075 la st M) := evC ((pm222 X 1074).trans rfl) la st M
set_option maxRecDepth 100000 in
theorem e222_1075 (X : aX) (la : aLs) (st : List aV) (M : aM) : go X 222 1075 la st M = kC X 222 (i_bin (fun x y => x + y) 1076 la st M) := evC ((pm222 X 1075).trans rfl) la st M
set_option maxRecDepth 100000 in
theorem e222_1076 (X : aX) (la : aLs) (st : List aV) (M : aM) : go X 222 1076 la st M = kC X 222 (i_ial X 1077 la st M) := evC ((pm222 X 1076).trans rfl) la st M
set_option maxRecDepth 100000 in
theorem e222_1077 (X : aX) (la : aLs) (st : List aV) (M : aM) : go X 222 1077 la st M = kK X 222 201 4 1080 7 la st M := evK ((pm222 X 1077).trans rfl) la st M
set_option maxRecDepth 100000 in
theorem e222_1080 (X : aX) (la : aLs) (st : List aV) (M : aM) : go X 222 1080 la st M = kC X 222 (i_cme 1322 1083 la st M) := evC ((pm222 X 1080).trans rfl) la st M
set_option maxRecDepth 100000 in
theorem e222_1083 (X : aX) (la : aLs) (st : List aV) (M : aM) : go X 222 1083 la st M = kC X 222 (i_ci (nI 0) 1084 la st M) := evC ((pm222 X 1083).trans rfl) la st M
set_option maxRecDepth 100000 in
theorem e222_1084 (X : aX) (la : aLs) (st : List aV) (M : aM) : go X 222 1084 la st M = i_zrt st M := evR ((pm222 X 1084).trans rfl) la st M
set_option maxRecDepth 100000 in
theorem e222_1085 (X : aX) (la : aLs) (st : List aV) (M : aM) : go X 222 1085 la st M = kC X 222 (i_lda 1 1086 la st M) := evC ((pm222 X 1085).trans rfl) la st M
set_option maxRecDepth 100000 in
theorem e222_1086 (X : aX) (la : aLs) (st : List aV) (M : aM) : go X 222 1086 la st M = kC X 222 (i_lda 0 1087 la st M) := evC ((pm222 X 1086).trans rfl) la st M
set_option maxRecDepth 100000 in
theorem e222_1087 (X : aX) (la : aLs) (st : List aV) (M : aM) : go X 222 1087 la st M = kC X 222 (i_ldi 3 1088 la st M) := evC ((pm222 X 1087).trans rfl) la st M
set_option maxRecDepth 100000 in
theorem e222_1088 (X : aX) (la : aLs) (st : List aV) (M : aM) : go X 222 1088 la st M = kC X 222 (i_ci (nI 1) 1089 la st M) := evC ((pm222 X 1088).trans rfl) la st M
set_option maxRecDepth 100000 in
theorem e222_1089 (X : aX) (la : aLs) (st : List aV) (M : aM) : go X 222 1089 la st M = kC X 222 (i_bin (fun x y => x + y) 1090 la st M) := evC ((pm222 X 1089).trans rfl) la st M
set_option maxRecDepth 100000 in
theorem e222_1090 (X : aX) (la : aLs) (st : List aV) (M : aM) : go X 222 1090 la st M = kC X 222 (i_ial X 1091 la st M) := evC ((pm222 X 1090).trans rfl) la st M
set_option maxRecDepth 100000 in
theorem e222_1091 (X : aX) (la : aLs) (st : List aV) (M : aM) : go X 222 1091 la st M = kC X 222 (i_lda 0 1092 la st M) := evC ((pm222 X 1091).trans rfl) la st M
set_option maxRecDepth 100000 in
theorem e222_1092 (X : aX) (la : aLs) (st : List aV) (M : aM) : go X 222 1092 la st M = kC X 222 (i_ldi 3 1093 la st M) := evC ((pm222 X 1092).trans rfl) la st M
set_option maxRecDepth 100000 in
theorem e222_1093 (X : aX) (la : aLs) (st : List aV) (M : aM) : go X 222 1093 la st M = kC X 222 (i_ci (nI 2) 1094 la st M) := evC ((pm222 X 1093).trans rfl) la st M
set_option maxRecDepth 100000 in
theorem e222_1094 (X : aX) (la : aLs) (st : List aV) (M : aM) : go X 222 1094 la st M = kC X 222 (i_bin (fun x y => x + y) 1095 la st M) := evC ((pm222 X 1094).trans rfl) la st M
set_option maxRecDepth 100000 in
theorem e222_1095 (X : aX) (la : aLs) (st : List aV) (M : aM) : go X 222 1095 la st M = kC X 222 (i_ial X 1096 la st M) := evC ((pm222 X 1095).trans rfl) la st M
set_option maxRecDepth 100000 in
theorem e222_1096 (X : aX) (la : aLs) (st : List aV) (M : aM) : go X 222 1096 la st M = kC X 222 (i_lda 0 1097 la st M) := evC ((pm222 X 1096).trans rfl) la st M
set_option maxRecDepth 100000 in
theorem e222_1097 (X : aX) (la : aLs) (st : List aV) (M : aM) : go X 222 1097 la st M = kC X 222 (i_ldi 3 1098 la st M) := evC ((pm222 X 1097).trans rfl) la st M
set_option maxRecDepth 100000 in
theorem e222_1098 (X : aX) (la : aLs) (st : List aV) (M : aM) : go X 222 1098 la st M = kC X 222 (i_ci (nI 3) 1099 la st M) := evC ((pm222 X 1098).trans rfl) la st M
set_option maxRecDepth 100000 in
theorem e222_1099 (X : aX) (la : aLs) (st : List aV) (M : aM) : go X 222 1099 la st M = kC X 222 (i_bin (fun x y => x + y) 1100 la st M) := evC ((pm222 X 1099).trans rfl) la st M
set_option maxRecDepth 100000 in
theorem e222_1100 (X : aX) (la : aLs) (st : List aV) (M : aM) : go X 222 1100 la st M = kC X 222 (i_ial X 1101 la st M) := evC ((pm222 X 1100).trans rfl) la st M
set_option maxRecDepth 100000 in
theorem e222_1101 (X : aX) (la : aLs) (st : List aV) (M : aM) : go X 222 1101 la st M = kK X 222 92 4 1104 6 la st M := evK ((pm222 X 1101).trans rfl) la st M
set_option maxRecDepth 100000 in
theorem e222_1104 (X : aX) (la : aLs) (st : List aV) (M : aM) : go X 222 1104 la st M = kC X 222 (i_lda 2 1105 la st M) := evC ((pm222 X 1104).trans rfl) la st M
set_option maxRecDepth 100000 in
theorem e222_1105 (X : aX) (la : aLs) (st : List aV) (M : aM) : go X 222 1105 la st M = kC X 222 (i_lda 0 1106 la st M) := evC ((pm222 X 1105).trans rfl) la st M
set_option maxRecDepth 100000 in
theorem e222_1106 (X : aX) (la : aLs) (st : List aV) (M : aM) : go X 222 1106 la st M = kC X 222 (i_ldi 3 1107 la st M) := evC ((pm222 X 1106).trans rfl) la st M
set_option maxRecDepth 100000 in
theorem e222_1107 (X : aX) (la : aLs) (st : List aV) (M : aM) : go X 222 1107 la st M = kC X 222 (i_ci (nI 1) 1108 la st M) := evC ((pm222 X 1107).trans rfl) la st M
set_option maxRecDepth 100000 in
theorem e222_1108 (X : aX) (la : aLs) (st : List aV) (M : aM) : go X 222 1108 la st M = kC X 222 (i_bin (fun x y => x + y) 1109 la st M) := evC ((pm222 X 1108).trans rfl) la st M
set_option maxRecDepth 100000 in
theorem e222_1109 (X : aX) (la : aLs) (st : List aV) (M : aM) : go X 222 1109 la st M = kC X 222 (i_ial X 1110 la st M) := evC ((pm222 X 1109).trans rfl) la st M
set_option maxRecDepth 100000 in
theorem e222_1110 (X : aX) (la : aLs) (st : List aV) (M : aM) : go X 222 1110 la st M = kC X 222 (i_lda 0 1111 la st M) := evC ((pm222 X 1110).trans rfl) la st M
set_option maxRecDepth 100000 in
theorem e222_1111 (X : aX) (la : aLs) (st : List aV) (M : aM) : go X 222 1111 la st M = kC X 222 (i_ldi 3 1112 la st M) := evC ((pm222 X 1111).trans rfl) la st M
set_option maxRecDepth 100000 in
theorem e222_1112 (X : aX) (la : aLs) (st : List aV) (M : aM) : go X 222 1112 la st M = kC X 222 (i_ci (nI 2) 1113 la st M) := evC ((pm222 X 1112).trans rfl) la st M
set_option maxRecDepth 100000 in
theorem e222_1113 (X : aX) (la : aLs) (st : List aV) (M : aM) : go X 222 1113 la st M = kC X 222 (i_bin (fun x y => x + y) 1114 la st M) := evC ((pm222 X 1113).trans rfl) la st M
set_option maxRecDepth 100000 in
theorem e222_1114 (X : aX) (la : aLs) (st : List aV) (M : aM) : go X 222 1114 la st M = kC X 222 (i_ial X 1115 la st M) := evC ((pm222 X 1114).trans rfl) la st M
set_option maxRecDepth 100000 in
theorem e222_1115 (X : aX) (la : aLs) (st : List aV) (M : aM) : go X 222 1115 la st M = kC X 222 (i_lda 0 1116 la st M) := evC ((pm222 X 1115).trans rfl) la st M
set_option maxRecDepth 100000 in
theorem e222_1116 (X : aX) (la : aLs) (st : List aV) (M : aM) : go X 222 1116 la st M = kC X 222 (i_ldi 3 1117 la st M) := evC ((pm222 X 1116).trans rfl) la st M
set_option maxRecDepth 100000 in
theorem e222_1117 (X : aX) (la : aLs) (st : List aV) (M : aM) : go X 222 1117 la st M = kC X 222 (i_ci (nI 3) 1118 la st M) := evC ((pm222 X 1117).trans rfl) la st M
set_option maxRecDepth 100000 in
theorem e222_1118 (X : aX) (la : aLs) (st : List aV) (M : aM) : go X 222 1118 la st M = kC X 222 (i_bin (fun x y => x + y) 1119 la st M) := evC ((pm222 X 1118).trans rfl) la st M
set_option maxRecDepth 100000 in
theorem e222_1119 (X : aX) (la : aLs) (st : List aV) (M : aM) : go X 222 1119 la st M = kC X 222 (i_ial X 1120 la st M) := evC ((pm222 X 1119).trans rfl) la st M
set_option maxRecDepth 100000 in
theorem e222_1120 (X : aX) (la : aLs) (st : List aV) (M : aM) : go X 222 1120 la st M = kK X 222 202 4 1123 7 la st M := evK ((pm222 X 1120).trans rfl) la st M
set_option maxRecDepth 100000 in
theorem e222_1123 (X : aX) (la : aLs) (st : List aV) (M : aM) : go X 222 1123 la st M = kC X 222 (i_cme 1322 1126 la st M) := evC ((pm222 X 1123).trans rfl) la st M
set_option maxRecDepth 100000 in
theorem e222_1126 (X : aX) (la : aLs) (st : List aV) (M : aM) : go X 222 1126 la st M = kC X 222 (i_ci (nI 0) 1127 la st M) := evC ((pm222 X 1126).trans rfl) la st M
set_option maxRecDepth 100000 in
theorem e222_1127 (X : aX) (la : aLs) (st : List aV) (M : aM) : go X 222 1127 la st M = i_zrt st M := evR ((pm222 X 1127).trans rfl) la st M
set_option maxRecDepth 100000 in
theorem e222_1128 (X : aX) (la : aLs) (st : List aV) (M : aM) : go X 222 1128 la st M = kC X 222 (i_lda 1 1129 la st M) := evC ((pm222 X 1128).trans rfl) la st M
set_option maxRecDepth 100000 in
theorem e222_1129 (X : aX) (la : aLs) (st : List aV) (M : aM) : go X 222 1129 la st M = kC X 222 (i_lda 0 1130 la st M) := evC ((pm222 X 1129).trans rfl) la st M
set_option maxRecDepth 100000 in
theorem e222_1130 (X : aX) (la : aLs) (st : List aV) (M : aM) : go X 222 1130 la st M = kC X 222 (i_ldi 3 1131 la st M) := evC ((pm222 X 1130).trans rfl) la st M
set_option maxRecDepth 100000 in
theorem e222_1131 (X : aX) (la : aLs) (st : List aV) (M : aM) : go X 222 1131 la st M = kC X 222 (i_ci (nI 1) 1132 la st M) := evC ((pm222 X 1131).trans rfl) la st M
set_option maxRecDepth 100000 in
theorem e222_1132 (X : aX) (la : aLs) (st : List aV) (M : aM) : go X 222 1132 la st M = kC X 222 (i_bin (fun x y => x + y) 1133 la st M) := evC ((pm222 X 1132).trans rfl) la st M
set_option maxRecDepth 100000 in
theorem e222_1133 (X : aX) (la : aLs) (st : List aV) (M : aM) : go X 222 1133 la st M = kC X 222 (i_ial X 1134 la st M) := evC ((pm222 X 1133).trans rfl) la st M
set_option maxRecDepth 100000 in
theorem e222_1134 (X : aX) (la : aLs) (st : List aV) (M : aM) : go X 222 1134 la st M = kC X 222 (i_lda 0 1135 la st M) := evC ((pm222 X 1134).trans rfl) la st M
set_option maxRecDepth 100000 in
theorem e222_1135 (X : aX) (la : aLs) (st : List aV) (M : aM) : go X 222 1135 la st M = kC X 222 (i_ldi 3 1136 la st M) := evC ((pm222 X 1135).trans rfl) la st M
set_option maxRecDepth 100000 in
theorem e222_1136 (X : aX) (la : aLs) (st : List aV) (M : aM) : go X 222 1136 la st M = kC X 222 (i_ci (nI 2) 1137 la st M) := evC ((pm222 X 1136).trans rfl) la st M
set_option maxRecDepth 100000 in
theorem e222_1137 (X : aX) (la : aLs) (st : List aV) (M : aM) : go X 222 1137 la st M = kC X 222 (i_bin (fun x y => x + y) 1138 la st M) := evC ((pm222 X 1137).trans rfl) la st M
set_option maxRecDepth 100000 in
theorem e222_1138 (X : aX) (la : aLs) (st : List aV) (M : aM) : go X 222 1138 la st M = kC X 222 (i_ial X 1139 la st M) := evC ((pm222 X 1138).trans rfl) la st M
set_option maxRecDepth 100000 in
theorem e222_1139 (X : aX) (la : aLs) (st : List aV) (M : aM) : go X 222 1139 la st M = kC X 222 (i_lda 0 1140 la st M) := evC ((pm222 X 1139).trans rfl) la st M
set_option maxRecDepth 100000 in
theorem e222_1140 (X : aX) (la : aLs) (st : List aV) (M : aM) : go X 222 1140 la st M = kC X 222 (i_ldi 3 1141 la st M) := evC ((pm222 X 1140).trans rfl) la st M
set_option maxRecDepth 100000 in
theorem e222_1141 (X : aX) (la : aLs) (st : List aV) (M : aM) : go X 222 1141 la st M = kC X 222 (i_ci (nI 3) 1142 la st M) := evC ((pm222 X 1141).trans rfl) la st M
set_option maxRecDepth 100000 in
theorem e222_1142 (X : aX) (la : aLs) (st : List aV) (M : aM) : go X 222 1142 la st M = kC X 222 (i_bin (fun x y => x + y) 1143 la st M) := evC ((pm222 X 1142).trans rfl) la st M
set_option maxRecDepth 100000 in
theorem e222_1143 (X : aX) (la : aLs) (st : List aV) (M : aM) : go X 222 1143 la st M = kC X 222 (i_ial X 1144 la st M) := evC ((pm222 X 1143).trans rfl) la st M
set_option maxRecDepth 100000 in
theorem e222_1144 (X : aX) (la : aLs) (st : List aV) (M : aM) : go X 222 1144 la st M = kC X 222 (i_lda 0 1145 la st M) := evC ((pm222 X 1144).trans rfl) la st M
set_option maxRecDepth 100000 in
theorem e222_1145 (X : aX) (la : aLs) (st : List aV) (M : aM) : go X 222 1145 la st M = kC X 222 (i_ldi 3 1146 la st M) := evC ((pm222 X 1145).trans rfl) la st M
set_option maxRecDepth 100000 in
theorem e222_1146 (X : aX) (la : aLs) (st : List aV) (M : aM) : go X 222 1146 la st M = kC X 222 (i_ci (nI 4) 1147 la st M) := evC ((pm222 X 1146).trans rfl) la st M
set_option maxRecDepth 100000 in
theorem e222_1147 (X : aX) (la : aLs) (st : List aV) (M : aM) : go X 222 1147 la st M = kC X 222 (i_bin (fun x y => x + y) 1148 la st M) := evC ((pm222 X 1147).trans rfl) la st M
set_option maxRecDepth 100000 in
theorem e222_1148 (X : aX) (la : aLs) (st : List aV) (M : aM) : go X 222 1148 la st M = kC X 222 (i_ial X 1149 la st M) := evC ((pm222 X 1148).trans rfl) la st M
set_option maxRecDepth 100000 in
theorem e222_1149 (X : aX) (la : aLs) (st : List aV) (M : aM) : go X 222 1149 la st M = kC X 222 (i_lda 0 1150 la st M) := evC ((pm222 X 1149).trans rfl) la st M
set_option maxRecDepth 100000 in
theorem e222_1150 (X : aX) (la : aLs) (st : List aV) (M : aM) : go X 222 1150 la st M = kC X 222 (i_ldi 3 1151 la st M) := evC ((pm222 X 1150).trans rfl) la st M
set_option maxRecDepth 100000 in
theorem e222_1151 (X : aX) (la : aLs) (st : List aV) (M : aM) : go X 222 1151 la st M = kC X 222 (i_ci (nI 5) 1152 la st M) := evC ((pm222 X 1151).trans rfl) la st M
set_option maxRecDepth 100000 in
theorem e222_1152 (X : aX) (la : aLs) (st : List aV) (M : aM) : go X 222 1152 la st M = kC X 222 (i_bin (fun x y => x + y) 1153 la st M) := evC ((pm222 X 1152).trans rfl) la st M
set_option maxRecDepth 100000 in
theorem e222_1153 (X : aX) (la : aLs) (st : List aV) (M : aM) : go X 222 1153 la st M = kC X 222 (i_ial X 1154 la st M) := evC ((pm222 X 1153).trans rfl) la st M
set_option maxRecDepth 100000 in
theorem e222_1154 (X : aX) (la : aLs) (st : List aV) (M : aM) : go X 222 1154 la st M = kK X 222 93 6 1157 6 la st M := evK ((pm222 X 1154).trans rfl) la st M
set_option maxRecDepth 100000 in
theorem e222_1157 (X : aX) (la : aLs) (st : List aV) (M : aM) : go X 222 1157 la st M = kC X 222 (i_lda 2 1158 la st M) := evC ((pm222 X 1157).trans rfl) la st M
set_option maxRecDepth 100000 in
theorem e222_1158 (X : aX) (la : aLs) (st : List aV) (M : aM) : go X 222 1158 la st M = kC X 222 (i_lda 0 1159 la st M) := evC ((pm222 X 1158).trans rfl) la st M
set_option maxRecDepth 100000 in
theorem e222_1159 (X : aX) (la : aLs) (st : List aV) (M : aM) : go X 222 1159 la st M = kC X 222 (i_ldi 3 1160 la st M) := evC ((pm222 X 1159).trans rfl) la st M
set_option maxRecDepth 100000 in
theorem e222_1160 (X : aX) (la : aLs) (st : List aV) (M : aM) : go X 222 1160 la st M = kC X 222 (i_ci (nI 1) 1161 la st M) := evC ((pm222 X 1160).trans rfl) la st M
set_option maxRecDepth 100000 in
theorem e222_1161 (X : aX) (la : aLs) (st : List aV) (M : aM) : go X 222 1161 la st M = kC X 222 (i_bin (fun x y => x + y) 1162 la st M) := evC ((pm222 X 1161).trans rfl) la st M
set_option maxRecDepth 100000 in
theorem e222_1162 (X : aX) (la : aLs) (st : List aV) (M : aM) : go X 222 1162 la st M = kC X 222 (i_ial X 1163 la st M) := evC ((pm222 X 1162).trans rfl) la st M
set_option maxRecDepth 100000 in
theorem e222_1163 (X : aX) (la : aLs) (st : List aV) (M : aM) : go X 222 1163 la st M = kC X 222 (i_lda 0 1164 la st M) := evC ((pm222 X 1163).trans rfl) la st M
set_option maxRecDepth 100000 in
theorem e222_1164 (X : aX) (la : aLs) (st : List aV) (M : aM) : go X 222 1164 la st M = kC X 222 (i_ldi 3 1165 la st M) := evC ((pm222 X 1164).trans rfl) la st M
set_option maxRecDepth 100000 in
theorem e222_1165 (X : aX) (la : aLs) (st : List aV) (M : aM) : go X 222 1165 la st M = kC X 222 (i_ci (nI 2) 1166 la st M) := evC ((pm222 X 1165).trans rfl) la st M
set_option maxRecDepth 100000 in
theorem e222_1166 (X : aX) (la : aLs) (st : List aV) (M : aM) : go X 222 1166 la st M = kC X 222 (i_bin (fun x y => x + y) 1167 la st M) := evC ((pm222 X 1166).trans rfl) la st M
set_option maxRecDepth 100000 in
theorem e222_1167 (X : aX) (la : aLs) (st : List aV) (M : aM) : go X 222 1167 la st M = kC X 222 (i_ial X 1168 la st M) := evC ((pm222 X 1167).trans rfl) la st M
set_option maxRecDepth 100000 in
theorem e222_1168 (X : aX) (la : aLs) (st : List aV) (M : aM) : go X 222 1168 la st M = kC X 222 (i_lda 0 1169 la st M) := evC ((pm222 X 1168).trans rfl) la st M
set_option maxRecDepth 100000 in
theorem e222_1169 (X : aX) (la : aLs) (st : List aV) (M : aM) : go X 222 1169 la st M = kC X 222 (i_ldi 3 1170 la st M) := evC ((pm222 X 1169).trans rfl) la st M
set_option maxRecDepth 100000 in
theorem e222_1170 (X : aX) (la : aLs) (st : List aV) (M : aM) : go X 222 1170 la st M = kC X 222 (i_ci (nI 3) 1171 la st M) := evC ((pm222 X 1170).trans rfl) la st M
set_option maxRecDepth 100000 in
theorem e222_1171 (X : aX) (la : aLs) (st : List aV) (M : aM) : go X 222 1171 la st M = kC X 222 (i_bin (fun x y => x + y) 1172 la st M) := evC ((pm222 X 1171).trans rfl) la st M
set_option maxRecDepth 100000 in
theorem e222_1172 (X : aX) (la : aLs) (st : List aV) (M : aM) : go X 222 1172 la st M = kC X 222 (i_ial X 1173 la st M) := evC ((pm222 X 1172).trans rfl) la st M
set_option maxRecDepth 100000 in
theorem e222_1173 (X : aX) (la : aLs) (st : List aV) (M : aM) : go X 222 1173 la st M = kC X 222 (i_lda 0 1174 la st M) := evC ((pm222 X 1173).trans rfl) la st M
set_option maxRecDepth 100000 in
theorem e222_1174 (X : aX) (la : aLs) (st : List aV) (M : aM) : go X 222 1174 la st M = kC X 222 (i_ldi 3 1175 la st M) := evC ((pm222 X 1174).trans rfl) la st M
set_option maxRecDepth 100000 in
theorem e222_1175 (X : aX) (la : aLs) (st : List aV) (M : aM) : go X 222 1175 la st M = kC X 222 (i_ci (nI 4) 1176 la st M) := evC ((pm222 X 1175).trans rfl) la st M
set_option maxRecDepth 100000 in
theorem e222_1176 (X : aX) (la : aLs) (st : List aV) (M : aM) : go X 222 1176 la st M = kC X 222 (i_bin (fun x y => x + y) 1177 la st M) := evC ((pm222 X 1176).trans rfl) la st M
set_option maxRecDepth 100000 in
theorem e222_1177 (X : aX) (la : aLs) (st : List aV) (M : aM) : go X 222 1177 la st M = kC X 222 (i_ial X 1178 la st M) := evC ((pm222 X 1177).trans rfl) la st M
set_option maxRecDepth 100000 in
theorem e222_1178 (X : aX) (la : aLs) (st : List aV) (M : aM) : go X 222 1178 la st M = kC X 222 (i_lda 0 1179 la st M) := evC ((pm222 X 1178).trans rfl) la st M
set_option maxRecDepth 100000 in
theorem e222_1179 (X : aX) (la : aLs) (st : List aV) (M : aM) : go X 222 1179 la st M = kC X 222 (i_ldi 3 1180 la st M) := evC ((pm222 X 1179).trans rfl) la st M
set_option maxRecDepth 100000 in
theorem e222_1180 (X : aX) (la : aLs) (st : List aV) (M : aM) : go X 222 1180 la st M = kC X 222 (i_ci (nI 5) 1181 la st M) := evC ((pm222 X 1180).trans rfl) la st M
set_option maxRecDepth 100000 in
theorem e222_1181 (X : aX) (la : aLs) (st : List aV) (M : aM) : go X 222 1181 la st M = kC X 222 (i_bin (fun x y => x + y) 1182 la st M) := evC ((pm222 X 1181).trans rfl) la st M
set_option maxRecDepth 100000 in
theorem e222_1182 (X : aX) (la : aLs) (st : List aV) (M : aM) : go X 222 1182 la st M = kC X 222 (i_ial X 1183 la st M) := evC ((pm222 X 1182).trans rfl) la st M
set_option maxRecDepth 100000 in
theorem e222_1183 (X : aX) (la : aLs) (st : List aV) (M : aM) : go X 222 1183 la st M = kK X 222 203 6 1186 7 la st M := evK ((pm222 X 1183).trans rfl) la st M
set_option maxRecDepth 100000 in
theorem e222_1186 (X : aX) (la : aLs) (st : List aV) (M : aM) : go X 222 1186 la st M = kC X 222 (i_cme 1322 1189 la st M) := evC ((pm222 X 1186).trans rfl) la st M
set_option maxRecDepth 100000 in
theorem e222_1189 (X : aX) (la : aLs) (st : List aV) (M : aM) : go X 222 1189 la st M = kC X 222 (i_ci (nI 0) 1190 la st M) := evC ((pm222 X 1189).trans rfl) la st M
set_option maxRecDepth 100000 in
theorem e222_1190 (X : aX) (la : aLs) (st : List aV) (M : aM) : go X 222 1190 la st M = i_zrt st M := evR ((pm222 X 1190).trans rfl) la st M
set_option maxRecDepth 100000 in
theorem e222_1191 (X : aX) (la : aLs) (st : List aV) (M : aM) : go X 222 1191 la st M = kC X 222 (i_lda 1 1192 la st M) := evC ((pm222 X 1191).trans rfl) la st M
set_option maxRecDepth 100000 in
theorem e222_1192 (X : aX) (la : aLs) (st : List aV) (M : aM) : go X 222 1192 la st M = kC X 222 (i_lda 0 1193 la st M) := evC ((pm222 X 1192).trans rfl) la st M
set_option maxRecDepth 100000 in
theorem e222_1193 (X : aX) (la : aLs) (st : List aV) (M : aM) : go X 222 1193 la st M = kC X 222 (i_ldi 3 1194 la st M) := evC ((pm222 X 1193).trans rfl) la st M
set_option maxRecDepth 100000 in
theorem e222_1194 (X : aX) (la : aLs) (st : List aV) (M : aM) : go X 222 1194 la st M = kC X 222 (i_ci (nI 1) 1195 la st M) := evC ((pm222 X 1194).trans rfl) la st M
set_option maxRecDepth 100000 in
theorem e222_1195 (X : aX) (la : aLs) (st : List aV) (M : aM) : go X 222 1195 la st M = kC X 222 (i_bin (fun x y => x + y) 1196 la st M) := evC ((pm222 X 1195).trans rfl) la st M
set_option maxRecDepth 100000 in
theorem e222_1196 (X : aX) (la : aLs) (st : List aV) (M : aM) : go X 222 1196 la st M = kC X 222 (i_ial X 1197 la st M) := evC ((pm222 X 1196).trans rfl) la st M
set_option maxRecDepth 100000 in
theorem e222_1197 (X : aX) (la : aLs) (st : List aV) (M : aM) : go X 222 1197 la st M = kK X 222 94 2 1200 6 la st M := evK ((pm222 X 1197).trans rfl) la st M
set_option maxRecDepth 100000 in
theorem e222_1200 (X : aX) (la : aLs) (st : List aV) (M : aM) : go X 222 1200 la st M = kC X 222 (i_lda 2 1201 la st M) := evC ((pm222 X 1200).trans rfl) la st M
set_option maxRecDepth 100000 in
theorem e222_1201 (X : aX) (la : aLs) (st : List aV) (M : aM) : go X 222 1201 la st M = kC X 222 (i_lda 0 1202 la st M) := evC ((pm222 X 1201).trans rfl) la st M
set_option maxRecDepth 100000 in
theorem e222_1202 (X : aX) (la : aLs) (st : List aV) (M : aM) : go X 222 1202 la st M = kC X 222 (i_ldi 3 1203 la st M) := evC ((pm222 X 1202).trans rfl) la st M
set_option maxRecDepth 100000 in
theorem e222_1203 (X : aX) (la : aLs) (st : List aV) (M : aM) : go X 222 1203 la st M = kC X 222 (i_ci (nI 1) 1204 la st M) := evC ((pm222 X 1203).trans rfl) la st M
set_option maxRecDepth 100000 in
theorem e222_1204 (X : aX) (la : aLs) (st : List aV) (M : aM) : go X 222 1204 la st M = kC X 222 (i_bin (fun x y => x + y) 1205 la st M) := evC ((pm222 X 1204).trans rfl) la st M
set_option maxRecDepth 100000 in
theorem e222_1205 (X : aX) (la : aLs) (st : List aV) (M : aM) : go X 222 1205 la st M = kC X 222 (i_ial X 1206 la st M) := evC ((pm222 X 1205).trans rfl) la st M
set_option maxRecDepth 100000 in
theorem e222_1206 (X : aX) (la : aLs) (st : List aV) (M : aM) : go X 222 1206 la st M = kK X 222 206 2 1209 7 la st M := evK ((pm222 X 1206).trans rfl) la st M
set_option maxRecDepth 100000 in
theorem e222_1209 (X : aX) (la : aLs) (st : List aV) (M : aM) : go X 222 1209 la st M = kC X 222 (i_cme 1322 1212 la st M) := evC ((pm222 X 1209).trans rfl) la st M
set_option maxRecDepth 100000 in
theorem e222_1212 (X : aX) (la : aLs) (st : List aV) (M : aM) : go X 222 1212 la st M = kC X 222 (i_ci (nI 0) 1213 la st M) := evC ((pm222 X 1212).trans rfl) la st M
set_option maxRecDepth 100000 in
theorem e222_1213 (X : aX) (la : aLs) (st : List aV) (M : aM) : go X 222 1213 la st M = i_zrt st M := evR ((pm222 X 1213).trans rfl) la st M
set_option maxRecDepth 100000 in
theorem e222_1214 (X : aX) (la : aLs) (st : List aV) (M : aM) : go X 222 1214 la st M = kC X 222 (i_lda 1 1215 la st M) := evC ((pm222 X 1214).trans rfl) la st M
set_option maxRecDepth 100000 in
theorem e222_1215 (X : aX) (la : aLs) (st : List aV) (M : aM) : go X 222 1215 la st M = kC X 222 (i_lda 0 1216 la st M) := evC ((pm222 X 1215).trans rfl) la st M
set_option maxRecDepth 100000 in
theorem e222_1216 (X : aX) (la : aLs) (st : List aV) (M : aM) : go X 222 1216 la st M = kC X 222 (i_ldi 3 1217 la st M) := evC ((pm222 X 1216).trans rfl) la st M
set_option maxRecDepth 100000 in
theorem e222_1217 (X : aX) (la : aLs) (st : List aV) (M : aM) : go X 222 1217 la st M = kC X 222 (i_ci (nI 1) 1218 la st M) := evC ((pm222 X 1217).trans rfl) la st M
set_option maxRecDepth 100000 in
theorem e222_1218 (X : aX) (la : aLs) (st : List aV) (M : aM) : go X 222 1218 la st M = kC X 222 (i_bin (fun x y => x + y) 1219 la st M) := evC ((pm222 X 1218).trans rfl) la st M
set_option maxRecDepth 100000 in
theorem e222_1219 (X : aX) (la : aLs) (st : List aV) (M : aM) : go X 222 1219 la st M = kC X 222 (i_ial X 1220 la st M) := evC ((pm222 X 1219).trans rfl) la st M
set_option maxRecDepth 100000 in
theorem e222_1220 (X : aX) (la : aLs) (st : List aV) (M : aM) : go X 222 1220 la st M = kK X 222 95 2 1223 6 la st M := evK ((pm222 X 1220).trans rfl) la st M
set_option maxRecDepth 100000 in
theorem e222_1223 (X : aX) (la : aLs) (st : List aV) (M : aM) : go X 222 1223 la st M = kC X 222 (i_lda 2 1224 la st M) := evC ((pm222 X 1223).trans rfl) la st M
set_option maxRecDepth 100000 in
theorem e222_1224 (X : aX) (la : aLs) (st : List aV) (M : aM) : go X 222 1224 la st M = kC X 222 (i_lda 0 1225 la st M) := evC ((pm222 X 1224).trans rfl) la st M
set_option maxRecDepth 100000 in
theorem e222_1225 (X : aX) (la : aLs) (st : List aV) (M : aM) : go X 222 1225 la st M = kC X 222 (i_ldi 3 1226 la st M) := evC ((pm222 X 1225).trans rfl) la st M
set_option maxRecDepth 100000 in
theorem e222_1226 (X : aX) (la : aLs) (st : List aV) (M : aM) : go X 222 1226 la st M = kC X 222 (i_ci (nI 1) 1227 la st M) := evC ((pm222 X 1226).trans rfl) la st M
set_option maxRecDepth 100000 in
theorem e222_1227 (X : aX) (la : aLs) (st : List aV) (M : aM) : go X 222 1227 la st M = kC X 222 (i_bin (fun x y => x + y) 1228 la st M) := evC ((pm222 X 1227).trans rfl) la st M
set_option maxRecDepth 100000 in
theorem e222_1228 (X : aX) (la : aLs) (st : List aV) (M : aM) : go X 222 1228 la st M = kC X 222 (i_ial X 1229 la st M) := evC ((pm222 X 1228).trans rfl) la st M
set_option maxRecDepth 100000 in
theorem e222_1229 (X : aX) (la : aLs) (st : List aV) (M : aM) : go X 222 1229 la st M = kK X 222 207 2 1232 7 la st M := evK ((pm222 X 1229).trans rfl) la st M
set_option maxRecDepth 100000 in
theorem e222_1232 (X : aX) (la : aLs) (st : List aV) (M : aM) : go X 222 1232 la st M = kC X 222 (i_cme 1322 1235 la st M) := evC ((pm222 X 1232).trans rfl) la st M
set_option maxRecDepth 100000 in
theorem e222_1235 (X : aX) (la : aLs) (st : List aV) (M : aM) : go X 222 1235 la st M = kC X 222 (i_ci (nI 0) 1236 la st M) := evC ((pm222 X 1235).trans rfl) la st M
set_option maxRecDepth 100000 in
theorem e222_1236 (X : aX) (la : aLs) (st : List aV) (M : aM) : go X 222 1236 la st M = i_zrt st M := evR ((pm222 X 1236).trans rfl) la st M
set_option maxRecDepth 100000 in
theorem e222_1237 (X : aX) (la : aLs) (st : List aV) (M : aM) : go X 222 1237 la st M = kC X 222 (i_lda 1 1238 la st M) := evC ((pm222 X 1237).trans rfl) la st M
set_option maxRecDepth 100000 in
theorem e222_1238 (X : aX) (la : aLs) (st : List aV) (M : aM) : go X 222 1238 la st M = kK X 222 96 1 1241 6 la st M := evK ((pm222 X 1238).trans rfl) la st M
set_option maxRecDepth 100000 in
theorem e222_1241 (X : aX) (la : aLs) (st : List aV) (M : aM) : go X 222 1241 la st M = kC X 222 (i_lda 2 1242 la st M) := evC ((pm222 X 1241).trans rfl) la st M
set_option maxRecDepth 100000 in
theorem e222_1242 (X : aX) (la : aLs) (st : List aV) (M : aM) : go X 222 1242 la st M = kK X 222 208 1 1245 7 la st M := evK ((pm222 X 1242).trans rfl) la st M
set_option maxRecDepth 100000 in
theorem e222_1245 (X : aX) (la : aLs) (st : List aV) (M : aM) : go X 222 1245 la st M = kC X 222 (i_cme 1322 1248 la st M) := evC ((pm222 X 1245).trans rfl) la st M
set_option maxRecDepth 100000 in
theorem e222_1248 (X : aX) (la : aLs) (st : List aV) (M : aM) : go X 222 1248 la st M = kC X 222 (i_ci (nI 0) 1249 la st M) := evC ((pm222 X 1248).trans rfl) la st M
set_option maxRecDepth 100000 in
theorem e222_1249 (X : aX) (la : aLs) (st : List aV) (M : aM) : go X 222 1249 la st M = i_zrt st M := evR ((pm222 X 1249).trans rfl) la st M
set_option maxRecDepth 100000 in
theorem e222_1250 (X : aX) (la : aLs) (st : List aV) (M : aM) : go X 222 1250 la st M = kC X 222 (i_lda 1 1251 la st M) := evC ((pm222 X 1250).trans rfl) la st M
set_option maxRecDepth 100000 in
theorem e222_1251 (X : aX) (la : aLs) (st : List aV) (M : aM) : go X 222 1251 la st M = kK X 222 97 1 1254 6 la st M := evK ((pm222 X 1251).trans rfl) la st M
set_option maxRecDepth 100000 in
theorem e222_1254 (X : aX) (la : aLs) (st : List aV) (M : aM) : go X 222 1254 la st M = kC X 222 (i_lda 2 1255 la st M) := evC ((pm222 X 1254).trans rfl) la st M
set_option maxRecDepth 100000 in
theorem e222_1255 (X : aX) (la : aLs) (st : List aV) (M : aM) : go X 222 1255 la st M = kK X 222 209 1 1258 7 la st M := evK ((pm222 X 1255).trans rfl) la st M
set_option maxRecDepth 100000 in
theorem e222_1258 (X : aX) (la : aLs) (st : List aV) (M : aM) : go X 222 1258 la st M = kC X 222 (i_cme 1322 1261 la st M) := evC ((pm222 X 1258).trans rfl) la st M
set_option maxRecDepth 100000 in
theorem e222_1261 (X : aX) (la : aLs) (st : List aV) (M : aM) : go X 222 1261 la st M = kC X 222 (i_ci (nI 0) 1262 la st M) := evC ((pm222 X 1261).trans rfl) la st M
set_option maxRecDepth 100000 in
theorem e222_1262 (X : aX) (la : aLs) (st : List aV) (M : aM) : go X 222 1262 la st M = i_zrt st M := evR ((pm222 X 1262).trans rfl) la st M
set_option maxRecDepth 100000 in
theorem e222_1263 (X : aX) (la : aLs) (st : List aV) (M : aM) : go X 222 1263 la st M = kC X 222 (i_lda 1 1264 la st M) := evC ((pm222 X 1263).trans rfl) la st M
set_option maxRecDepth 100000 in
theorem e222_1264 (X : aX) (la : aLs) (st : List aV) (M : aM) : go X 222 1264 la st M = kK X 222 98 1 1267 6 la st M := evK ((pm222 X 1264).trans rfl) la st M
set_option maxRecDepth 100000 in
theorem e222_1267 (X : aX) (la : aLs) (st : List aV) (M : aM) : go X 222 1267 la st M = kC X 222 (i_lda 2 1268 la st M) := evC ((pm222 X 1267).trans rfl) la st M
set_option maxRecDepth 100000 in
theorem e222_1268 (X : aX) (la : aLs) (st : List aV) (M : aM) : go X 222 1268 la st M = kK X 222 210 1 1271 7 la st M := evK ((pm222 X 1268).trans rfl) la st M
set_option maxRecDepth 100000 in
theorem e222_1271 (X : aX) (la : aLs) (st : List aV) (M : aM) : go X 222 1271 la st M = kC X 222 (i_cme 1322 1274 la st M) := evC ((pm222 X 1271).trans rfl) la st M
set_option maxRecDepth 100000 in
theorem e222_1274 (X : aX) (la : aLs) (st : List aV) (M : aM) : go X 222 1274 la st M = kC X 222 (i_ci (nI 0) 1275 la st M) := evC ((pm222 X 1274).trans rfl) la st M
set_option maxRecDepth 100000 in
theorem e222_1275 (X : aX) (la : aLs) (st : List aV) (M : aM) : go X 222 1275 la st M = i_zrt st M := evR ((pm222 X 1275).trans rfl) la st M
set_option maxRecDepth 100000 in
theorem e222_1276 (X : aX) (la : aLs) (st : List aV) (M : aM) : go X 222 1276 la st M = kC X 222 (i_lda 1 1277 la st M) := evC ((pm222 X 1276).trans rfl) la st M
set_option maxRecDepth 100000 in
theorem e222_1277 (X : aX) (la : aLs) (st : List aV) (M : aM) : go X 222 1277 la st M = kC X 222 (i_lda 0 1278 la st M) := evC ((pm222 X 1277).trans rfl) la st M
set_option maxRecDepth 100000 in
theorem e222_1278 (X : aX) (la : aLs) (st : List aV) (M : aM) : go X 222 1278 la st M = kC X 222 (i_ldi 3 1279 la st M) := evC ((pm222 X 1278).trans rfl) la st M
set_option maxRecDepth 100000 in
theorem e222_1279 (X : aX) (la : aLs) (st : List aV) (M : aM) : go X 222 1279 la st M = kC X 222 (i_ci (nI 1) 1280 la st M) := evC ((pm222 X 1279).trans rfl) la st M
set_option maxRecDepth 100000 in
theorem e222_1280 (X : aX) (la : aLs) (st : List aV) (M : aM) : go X 222 1280 la st M = kC X 222 (i_bin (fun x y => x + y) 1281 la st M) := evC ((pm222 X 1280).trans rfl) la st M
set_option maxRecDepth 100000 in
theorem e222_1281 (X : aX) (la : aLs) (st : List aV) (M : aM) : go X 222 1281 la st M = kC X 222 (i_ial X 1282 la st M) := evC ((pm222 X 1281).trans rfl) la st M
set_option maxRecDepth 100000 in
theorem e222_1282 (X : aX) (la : aLs) (st : List aV) (M : aM) : go X 222 1282 la st M = kK X 222 99 2 1285 6 la st M := evK ((pm222 X 1282).trans rfl) la st M
set_option maxRecDepth 100000 in
theorem e222_1285 (X : aX) (la : aLs) (st : List aV) (M : aM) : go X 222 1285 la st M = kC X 222 (i_lda 2 1286 la st M) := evC ((pm222 X 1285).trans rfl) la st M
set_option maxRecDepth 100000 in
theorem e222_1286 (X : aX) (la : aLs) (st : List aV) (M : aM) : go X 222 1286 la st M = kC X 222 (i_lda 0 1287 la st M) := evC ((pm222 X 1286).trans rfl) la st M
set_option maxRecDepth 100000 in
theorem e222_1287 (X : aX) (la : aLs) (st : List aV) (M : aM) : go X 222 1287 la st M = kC X 222 (i_ldi 3 1288 la st M) := evC ((pm222 X 1287).trans rfl) la st M
set_option maxRecDepth 100000 in
theorem e222_1288 (X : aX) (la : aLs) (st : List aV) (M : aM) : go X 222 1288 la st M = kC X 222 (i_ci (nI 1) 1289 la st M) := evC ((pm222 X 1288).trans rfl) la st M
set_option maxRecDepth 100000 in
theorem e222_1289 (X : aX) (la : aLs) (st : List aV) (M : aM) : go X 222 1289 la st M = kC X 222 (i_bin (fun x y => x + y) 1290 la st M) := evC ((pm222 X 1289).trans rfl) la st M
set_option maxRecDepth 100000 in
theorem e222_1290 (X : aX) (la : aLs) (st : List aV) (M : aM) : go X 222 1290 la st M = kC X 222 (i_ial X 1291 la st M) := evC ((pm222 X 1290).trans rfl) la st M
set_option maxRecDepth 100000 in
theorem e222_1291 (X : aX) (la : aLs) (st : List aV) (M : aM) : go X 222 1291 la st M = kK X 222 211 2 1294 7 la st M := evK ((pm222 X 1291).trans rfl) la st M
set_option maxRecDepth 100000 in
theorem e222_1294 (X : aX) (la : aLs) (st : List aV) (M : aM) : go X 222 1294 la st M = kC X 222 (i_cme 1322 1297 la st M) := evC ((pm222 X 1294).trans rfl) la st M
set_option maxRecDepth 100000 in
theorem e222_1297 (X : aX) (la : aLs) (st : List aV) (M : aM) : go X 222 1297 la st M = kC X 222 (i_ci (nI 0) 1298 la st M) := evC ((pm222 X 1297).trans rfl) la st M
set_option maxRecDepth 100000 in
theorem e222_1298 (X : aX) (la : aLs) (st : List aV) (M : aM) : go X 222 1298 la st M = i_zrt st M := evR ((pm222 X 1298).trans rfl) la st M
set_option maxRecDepth 100000 in
theorem e222_1299 (X : aX) (la : aLs) (st : List aV) (M : aM) : go X 222 1299 la st M = kC X 222 (i_lda 1 1300 la st M) := evC ((pm222 X 1299).trans rfl) la st M
set_option maxRecDepth 100000 in
theorem e222_1300 (X : aX) (la : aLs) (st : List aV) (M : aM) : go X 222 1300 la st M = kC X 222 (i_lda 0 1301 la st M) := evC ((pm222 X 1300).trans rfl) la st M
set_option maxRecDepth 100000 in
theorem e222_1301 (X : aX) (la : aLs) (st : List aV) (M : aM) : go X 222 1301 la st M = kC X 222 (i_ldi 3 1302 la st M) := evC ((pm222 X 1301).trans rfl) la st M
set_option maxRecDepth 100000 in
theorem e222_1302 (X : aX) (la : aLs) (st : List aV) (M : aM) : go X 222 1302 la st M = kC X 222 (i_ci (nI 1) 1303 la st M) := evC ((pm222 X 1302).trans rfl) la st M
set_option maxRecDepth 100000 in
theorem e222_1303 (X : aX) (la : aLs) (st : List aV) (M : aM) : go X 222 1303 la st M = kC X 222 (i_bin (fun x y => x + y) 1304 la st M) := evC ((pm222 X 1303).trans rfl) la st M
set_option maxRecDepth 100000 in
theorem e222_1304 (X : aX) (la : aLs) (st : List aV) (M : aM) : go X 222 1304 la st M = kC X 222 (i_ial X 1305 la st M) := evC ((pm222 X 1304).trans rfl) la st M
set_option maxRecDepth 100000 in
theorem e222_1305 (X : aX) (la : aLs) (st : List aV) (M : aM) : go X 222 1305 la st M = kK X 222 100 2 1308 6 la st M := evK ((pm222 X 1305).trans rfl) la st M
set_option maxRecDepth 100000 in
theorem e222_1308 (X : aX) (la : aLs) (st : List aV) (M : aM) : go X 222 1308 la st M = kC X 222 (i_lda 2 1309 la st M) := evC ((pm222 X 1308).trans rfl) la st M
set_option maxRecDepth 100000 in
theorem e222_1309 (X : aX) (la : aLs) (st : List aV) (M : aM) : go X 222 1309 la st M = kC X 222 (i_lda 0 1310 la st M) := evC ((pm222 X 1309).trans rfl) la st M
set_option maxRecDepth 100000 in
theorem e222_1310 (X : aX) (la : aLs) (st : List aV) (M : aM) : go X 222 1310 la st M = kC X 222 (i_ldi 3 1311 la st M) := evC ((pm222 X 1310).trans rfl) la st M
set_option maxRecDepth 100000 in
theorem e222_1311 (X : aX) (la : aLs) (st : List aV) (M : aM) : go X 222 1311 la st M = kC X 222 (i_ci (nI 1) 1312 la st M) := evC ((pm222 X 1311).trans rfl) la st M
set_option maxRecDepth 100000 in
theorem e222_1312 (X : aX) (la : aLs) (st : List aV) (M : aM) : go X 222 1312 la st M = kC X 222 (i_bin (fun x y => x + y) 1313 la st M) := evC ((pm222 X 1312).trans rfl) la st M
set_option maxRecDepth 100000 in
theorem e222_1313 (X : aX) (la : aLs) (st : List aV) (M : aM) : go X 222 1313 la st M = kC X 222 (i_ial X 1314 la st M) := evC ((pm222 X 1313).trans rfl) la st M
set_option maxRecDepth 100000 in
theorem e222_1314 (X : aX) (la : aLs) (st : List aV) (M : aM) : go X 222 1314 la st M = kK X 222 212 2 1317 7 la st M := evK ((pm222 X 1314).trans rfl) la st M
set_option maxRecDepth 100000 in
theorem e222_1317 (X : aX) (la : aLs) (st : List aV) (M : aM) : go X 222 1317 la st M = kC X 222 (i_cme 1322 1320 la st M) := evC ((pm222 X 1317).trans rfl) la st M
set_option maxRecDepth 100000 in
theorem e222_1320 (X : aX) (la : aLs) (st : List aV) (M : aM) : go X 222 1320 la st M = kC X 222 (i_ci (nI 0) 1321 la st M) := evC ((pm222 X 1320).trans rfl) la st M
set_option maxRecDepth 100000 in
theorem e222_1321 (X : aX) (la : aLs) (st : List aV) (M : aM) : go X 222 1321 la st M = i_zrt st M := evR ((pm222 X 1321).trans rfl) la st M
set_option maxRecDepth 100000 in
theorem e222_1322 (X : aX) (la : aLs) (st : List aV) (M : aM) : go X 222 1322 la st M = kC X 222 (i_inc 3 (nI 6) 1325 la st M) := evC ((pm222 X 1322).trans rfl) la st M
set_option maxRecDepth 100000 in
theorem e222_1325 (X : aX) (la : aLs) (st : List aV) (M : aM) : go X 222 1325 la st M = kC X 222 (i_go 18 la st M) := evC ((pm222 X 1325).trans rfl) la st M
set_option maxRecDepth 100000 in
theorem e222_1328 (X : aX) (la : aLs) (st : List aV) (M : aM) : go X 222 1328 la st M = kC X 222 (i_ci (nI 1) 1329 la st M) := evC ((pm222 X 1328).trans rfl) la st M
set_option maxRecDepth 100000 in
theorem e222_1329 (X : aX) (la : aLs) (st : List aV) (M : aM) : go X 222 1329 la st M = i_zrt st M := evR ((pm222 X 1329).trans rfl) la st M
set_option maxRecDepth 100000 in
theorem c222 (X : aX) (as : List aV) (M : aM) : cl X 222 as M = if cs as ≤ 4 then go X 222 0 (ent 4 as) [] M else none := rfl
