theorem pm168 (X : aX) (pc : Nat) : pg X 168 pc = lk pc (tb168 X) := rfl
theorem e168_0 (X : aX) (la : aLs) (st : List aV) (M : aM) : go X 168 0 la st M = kC X 168 (i_lda 0 1 la st M) := evC ((pm168 X 0).trans rfl) la st M
theorem e168_1 (X : aX) (la : aLs) (st : List aV) (M : aM) : go X 168 1 la st M = kC X 168 (i_ldi 1 2 la st M) := evC ((pm168 X 1).trans rfl) la st M
theorem e168_2 (X : aX) (la : aLs) (st : List aV) (M : aM) : go X 168 2 la st M = kK X 168 123 2 5 7 la st M := evK ((pm168 X 2).trans rfl) la st M
theorem e168_5 (X : aX) (la : aLs) (st : List aV) (M : aM) : go X 168 5 la st M = kC X 168 (i_ife 18 8 la st M) := evC ((pm168 X 5).trans rfl) la st M
theorem e168_8 (X : aX) (la : aLs) (st : List aV) (M : aM) : go X 168 8 la st M = kC X 168 (i_ldi 2 9 la st M) := evC ((pm168 X 8).trans rfl) la st M
theorem e168_9 (X : aX) (la : aLs) (st : List aV) (M : aM) : go X 168 9 la st M = kC X 168 (i_ci (nI 0) 10 la st M) := evC ((pm168 X 9).trans rfl) la st M
theorem e168_10 (X : aX) (la : aLs) (st : List aV) (M : aM) : go X 168 10 la st M = kC X 168 (i_ci (nI 99) 12 la st M) := evC ((pm168 X 10).trans rfl) la st M
theorem e168_12 (X : aX) (la : aLs) (st : List aV) (M : aM) : go X 168 12 la st M = kK X 168 114 3 15 0 la st M := evK ((pm168 X 12).trans rfl) la st M
theorem e168_15 (X : aX) (la : aLs) (st : List aV) (M : aM) : go X 168 15 la st M = kC X 168 (i_ife 18 25 la st M) := evC ((pm168 X 15).trans rfl) la st M
theorem e168_18 (X : aX) (la : aLs) (st : List aV) (M : aM) : go X 168 18 la st M = kC X 168 (i_lda 0 19 la st M) := evC ((pm168 X 18).trans rfl) la st M
theorem e168_19 (X : aX) (la : aLs) (st : List aV) (M : aM) : go X 168 19 la st M = kC X 168 (i_ci (-1000001) 21 la st M) := evC ((pm168 X 19).trans rfl) la st M
theorem e168_21 (X : aX) (la : aLs) (st : List aV) (M : aM) : go X 168 21 la st M = kK X 168 113 2 24 7 la st M := evK ((pm168 X 21).trans rfl) la st M
theorem e168_24 (X : aX) (la : aLs) (st : List aV) (M : aM) : go X 168 24 la st M = i_irt st M := evR ((pm168 X 24).trans rfl) la st M
theorem e168_25 (X : aX) (la : aLs) (st : List aV) (M : aM) : go X 168 25 la st M = kC X 168 (i_ldi 1 26 la st M) := evC ((pm168 X 25).trans rfl) la st M
theorem e168_26 (X : aX) (la : aLs) (st : List aV) (M : aM) : go X 168 26 la st M = kC X 168 (i_ci (nI 4) 27 la st M) := evC ((pm168 X 26).trans rfl) la st M
theorem e168_27 (X : aX) (la : aLs) (st : List aV) (M : aM) : go X 168 27 la st M = kK X 168 121 2 30 0 la st M := evK ((pm168 X 27).trans rfl) la st M
theorem e168_30 (X : aX) (la : aLs) (st : List aV) (M : aM) : go X 168 30 la st M = kC X 168 (i_sti 3 31 la st M) := evC ((pm168 X 30).trans rfl) la st M
theorem e168_31 (X : aX) (la : aLs) (st : List aV) (M : aM) : go X 168 31 la st M = kC X 168 (i_lda 0 32 la st M) := evC ((pm168 X 31).trans rfl) la st M
theorem e168_32 (X : aX) (la : aLs) (st : List aV) (M : aM) : go X 168 32 la st M = kC X 168 (i_get 6 0 35 la st M) := evC ((pm168 X 32).trans rfl) la st M
theorem e168_35 (X : aX) (la : aLs) (st : List aV) (M : aM) : go X 168 35 la st M = kC X 168 (i_ldi 3 36 la st M) := evC ((pm168 X 35).trans rfl) la st M
theorem e168_36 (X : aX) (la : aLs) (st : List aV) (M : aM) : go X 168 36 la st M = kC X 168 (i_ial X 37 la st M) := evC ((pm168 X 36).trans rfl) la st M
theorem e168_37 (X : aX) (la : aLs) (st : List aV) (M : aM) : go X 168 37 la st M = kC X 168 (i_sti 4 39 la st M) := evC ((pm168 X 37).trans rfl) la st M
theorem e168_39 (X : aX) (la : aLs) (st : List aV) (M : aM) : go X 168 39 la st M = kC X 168 (i_ci (-1) 40 la st M) := evC ((pm168 X 39).trans rfl) la st M
theorem e168_40 (X : aX) (la : aLs) (st : List aV) (M : aM) : go X 168 40 la st M = kC X 168 (i_sti 5 42 la st M) := evC ((pm168 X 40).trans rfl) la st M
theorem e168_42 (X : aX) (la : aLs) (st : List aV) (M : aM) : go X 168 42 la st M = kC X 168 (i_ci (nI 0) 43 la st M) := evC ((pm168 X 42).trans rfl) la st M
theorem e168_43 (X : aX) (la : aLs) (st : List aV) (M : aM) : go X 168 43 la st M = kC X 168 (i_sti 6 45 la st M) := evC ((pm168 X 43).trans rfl) la st M
theorem e168_45 (X : aX) (la : aLs) (st : List aV) (M : aM) : go X 168 45 la st M = kC X 168 (i_ldi 6 47 la st M) := evC ((pm168 X 45).trans rfl) la st M
theorem e168_47 (X : aX) (la : aLs) (st : List aV) (M : aM) : go X 168 47 la st M = kC X 168 (i_ci (nI 120) 49 la st M) := evC ((pm168 X 47).trans rfl) la st M
theorem e168_49 (X : aX) (la : aLs) (st : List aV) (M : aM) : go X 168 49 la st M = kC X 168 (i_cmg 84 52 la st M) := evC ((pm168 X 49).trans rfl) la st M
theorem e168_52 (X : aX) (la : aLs) (st : List aV) (M : aM) : go X 168 52 la st M = kC X 168 (i_lda 0 53 la st M) := evC ((pm168 X 52).trans rfl) la st M
theorem e168_53 (X : aX) (la : aLs) (st : List aV) (M : aM) : go X 168 53 la st M = kC X 168 (i_get 6 0 56 la st M) := evC ((pm168 X 53).trans rfl) la st M
theorem e168_56 (X : aX) (la : aLs) (st : List aV) (M : aM) : go X 168 56 la st M = kC X 168 (i_ldi 3 57 la st M) := evC ((pm168 X 56).trans rfl) la st M
theorem e168_57 (X : aX) (la : aLs) (st : List aV) (M : aM) : go X 168 57 la st M = kC X 168 (i_ldi 6 59 la st M) := evC ((pm168 X 57).trans rfl) la st M
theorem e168_59 (X : aX) (la : aLs) (st : List aV) (M : aM) : go X 168 59 la st M = kC X 168 (i_ias 60 la st M) := evC ((pm168 X 59).trans rfl) la st M
theorem e168_60 (X : aX) (la : aLs) (st : List aV) (M : aM) : go X 168 60 la st M = kC X 168 (i_lda 0 61 la st M) := evC ((pm168 X 60).trans rfl) la st M
theorem e168_61 (X : aX) (la : aLs) (st : List aV) (M : aM) : go X 168 61 la st M = kC X 168 (i_ldi 1 62 la st M) := evC ((pm168 X 61).trans rfl) la st M
theorem e168_62 (X : aX) (la : aLs) (st : List aV) (M : aM) : go X 168 62 la st M = kK X 168 129 2 65 7 la st M := evK ((pm168 X 62).trans rfl) la st M
theorem e168_65 (X : aX) (la : aLs) (st : List aV) (M : aM) : go X 168 65 la st M = kC X 168 (i_ldi 2 66 la st M) := evC ((pm168 X 65).trans rfl) la st M
theorem e168_66 (X : aX) (la : aLs) (st : List aV) (M : aM) : go X 168 66 la st M = kC X 168 (i_cmg 74 69 la st M) := evC ((pm168 X 66).trans rfl) la st M
theorem e168_69 (X : aX) (la : aLs) (st : List aV) (M : aM) : go X 168 69 la st M = kC X 168 (i_ldi 6 71 la st M) := evC ((pm168 X 69).trans rfl) la st M
theorem e168_71 (X : aX) (la : aLs) (st : List aV) (M : aM) : go X 168 71 la st M = kC X 168 (i_go 76 la st M) := evC ((pm168 X 71).trans rfl) la st M
theorem e168_74 (X : aX) (la : aLs) (st : List aV) (M : aM) : go X 168 74 la st M = kC X 168 (i_ldi 5 76 la st M) := evC ((pm168 X 74).trans rfl) la st M
theorem e168_76 (X : aX) (la : aLs) (st : List aV) (M : aM) : go X 168 76 la st M = kC X 168 (i_sti 5 78 la st M) := evC ((pm168 X 76).trans rfl) la st M
theorem e168_78 (X : aX) (la : aLs) (st : List aV) (M : aM) : go X 168 78 la st M = kC X 168 (i_inc 6 (nI 1) 81 la st M) := evC ((pm168 X 78).trans rfl) la st M
theorem e168_81 (X : aX) (la : aLs) (st : List aV) (M : aM) : go X 168 81 la st M = kC X 168 (i_go 45 la st M) := evC ((pm168 X 81).trans rfl) la st M
theorem e168_84 (X : aX) (la : aLs) (st : List aV) (M : aM) : go X 168 84 la st M = kC X 168 (i_lda 0 85 la st M) := evC ((pm168 X 84).trans rfl) la st M
theorem e168_85 (X : aX) (la : aLs) (st : List aV) (M : aM) : go X 168 85 la st M = kC X 168 (i_get 6 0 88 la st M) := evC ((pm168 X 85).trans rfl) la st M
theorem e168_88 (X : aX) (la : aLs) (st : List aV) (M : aM) : go X 168 88 la st M = kC X 168 (i_ldi 3 89 la st M) := evC ((pm168 X 88).trans rfl) la st M
theorem e168_89 (X : aX) (la : aLs) (st : List aV) (M : aM) : go X 168 89 la st M = kC X 168 (i_ldi 4 91 la st M) := evC ((pm168 X 89).trans rfl) la st M
theorem e168_91 (X : aX) (la : aLs) (st : List aV) (M : aM) : go X 168 91 la st M = kC X 168 (i_ias 92 la st M) := evC ((pm168 X 91).trans rfl) la st M
theorem e168_92 (X : aX) (la : aLs) (st : List aV) (M : aM) : go X 168 92 la st M = kC X 168 (i_lda 0 93 la st M) := evC ((pm168 X 92).trans rfl) la st M
theorem e168_93 (X : aX) (la : aLs) (st : List aV) (M : aM) : go X 168 93 la st M = kC X 168 (i_ldi 5 95 la st M) := evC ((pm168 X 93).trans rfl) la st M
theorem e168_95 (X : aX) (la : aLs) (st : List aV) (M : aM) : go X 168 95 la st M = kK X 168 118 2 98 7 la st M := evK ((pm168 X 95).trans rfl) la st M
theorem e168_98 (X : aX) (la : aLs) (st : List aV) (M : aM) : go X 168 98 la st M = i_irt st M := evR ((pm168 X 98).trans rfl) la st M
theorem c168 (X : aX) (as : List aV) (M : aM) : cl X 168 as M = if cs as ≤ 7 then go X 168 0 (ent 7 as) [] M else none := rfl
theorem pm169 (X : aX) (pc : Nat) : pg X 169 pc = lk pc (tb169 X) := rfl
theorem e169_0 (X : aX) (la : aLs) (st : List aV) (M : aM) : go X 169 0 la st M = kC X 169 (i_lda 0 1 la st M) := evC ((pm169 X 0).trans rfl) la st M
theorem e169_1 (X : aX) (la : aLs) (st : List aV) (M : aM) : go X 169 1 la st M = kC X 169 (i_get 6 0 4 la st M) := evC ((pm169 X 1).trans rfl) la st M
theorem e169_4 (X : aX) (la : aLs) (st : List aV) (M : aM) : go X 169 4 la st M = kC X 169 (i_lda 0 5 la st M) := evC ((pm169 X 4).trans rfl) la st M
theorem e169_5 (X : aX) (la : aLs) (st : List aV) (M : aM) : go X 169 5 la st M = kC X 169 (i_get 6 2 8 la st M) := evC ((pm169 X 5).trans rfl) la st M
theorem e169_8 (X : aX) (la : aLs) (st : List aV) (M : aM) : go X 169 8 la st M = kK X 169 116 2 11 0 la st M := evK ((pm169 X 8).trans rfl) la st M
theorem e169_11 (X : aX) (la : aLs) (st : List aV) (M : aM) : go X 169 11 la st M = kC X 169 (i_ci (nI 0) 12 la st M) := evC ((pm169 X 11).trans rfl) la st M
theorem e169_12 (X : aX) (la : aLs) (st : List aV) (M : aM) : go X 169 12 la st M = kC X 169 (i_sti 3 13 la st M) := evC ((pm169 X 12).trans rfl) la st M
theorem e169_13 (X : aX) (la : aLs) (st : List aV) (M : aM) : go X 169 13 la st M = kC X 169 (i_ldi 3 14 la st M) := evC ((pm169 X 13).trans rfl) la st M
theorem e169_14 (X : aX) (la : aLs) (st : List aV) (M : aM) : go X 169 14 la st M = kC X 169 (i_lda 0 15 la st M) := evC ((pm169 X 14).trans rfl) la st M
theorem e169_15 (X : aX) (la : aLs) (st : List aV) (M : aM) : go X 169 15 la st M = kC X 169 (i_get 6 0 18 la st M) := evC ((pm169 X 15).trans rfl) la st M
theorem e169_18 (X : aX) (la : aLs) (st : List aV) (M : aM) : go X 169 18 la st M = kC X 169 (i_ci (nI 1) 19 la st M) := evC ((pm169 X 18).trans rfl) la st M
theorem e169_19 (X : aX) (la : aLs) (st : List aV) (M : aM) : go X 169 19 la st M = kC X 169 (i_ial X 20 la st M) := evC ((pm169 X 19).trans rfl) la st M
theorem e169_20 (X : aX) (la : aLs) (st : List aV) (M : aM) : go X 169 20 la st M = kC X 169 (i_cml 23 50 la st M) := evC ((pm169 X 20).trans rfl) la st M
theorem e169_23 (X : aX) (la : aLs) (st : List aV) (M : aM) : go X 169 23 la st M = kC X 169 (i_ldi 1 24 la st M) := evC ((pm169 X 23).trans rfl) la st M
theorem e169_24 (X : aX) (la : aLs) (st : List aV) (M : aM) : go X 169 24 la st M = kC X 169 (i_ldi 3 25 la st M) := evC ((pm169 X 24).trans rfl) la st M
theorem e169_25 (X : aX) (la : aLs) (st : List aV) (M : aM) : go X 169 25 la st M = kC X 169 (i_bin (fun x y => x >>> (y &&& 31)) 26 la st M) := evC ((pm169 X 25).trans rfl) la st M
theorem e169_26 (X : aX) (la : aLs) (st : List aV) (M : aM) : go X 169 26 la st M = kC X 169 (i_ci (nI 1) 27 la st M) := evC ((pm169 X 26).trans rfl) la st M
theorem e169_27 (X : aX) (la : aLs) (st : List aV) (M : aM) : go X 169 27 la st M = kC X 169 (i_bin (fun x y => x &&& y) 28 la st M) := evC ((pm169 X 27).trans rfl) la st M
theorem e169_28 (X : aX) (la : aLs) (st : List aV) (M : aM) : go X 169 28 la st M = kC X 169 (i_ci (nI 1) 29 la st M) := evC ((pm169 X 28).trans rfl) la st M
theorem e169_29 (X : aX) (la : aLs) (st : List aV) (M : aM) : go X 169 29 la st M = kC X 169 (i_cme 32 44 la st M) := evC ((pm169 X 29).trans rfl) la st M
theorem e169_32 (X : aX) (la : aLs) (st : List aV) (M : aM) : go X 169 32 la st M = kC X 169 (i_lda 0 33 la st M) := evC ((pm169 X 32).trans rfl) la st M
theorem e169_33 (X : aX) (la : aLs) (st : List aV) (M : aM) : go X 169 33 la st M = kC X 169 (i_get 6 0 36 la st M) := evC ((pm169 X 33).trans rfl) la st M
theorem e169_36 (X : aX) (la : aLs) (st : List aV) (M : aM) : go X 169 36 la st M = kC X 169 (i_ldi 3 37 la st M) := evC ((pm169 X 36).trans rfl) la st M
theorem e169_37 (X : aX) (la : aLs) (st : List aV) (M : aM) : go X 169 37 la st M = kC X 169 (i_ci (nI 6) 39 la st M) := evC ((pm169 X 37).trans rfl) la st M
theorem e169_39 (X : aX) (la : aLs) (st : List aV) (M : aM) : go X 169 39 la st M = kK X 169 121 2 42 0 la st M := evK ((pm169 X 39).trans rfl) la st M
theorem e169_42 (X : aX) (la : aLs) (st : List aV) (M : aM) : go X 169 42 la st M = kC X 169 (i_ci (nI 1) 43 la st M) := evC ((pm169 X 42).trans rfl) la st M
theorem e169_43 (X : aX) (la : aLs) (st : List aV) (M : aM) : go X 169 43 la st M = kC X 169 (i_ias 44 la st M) := evC ((pm169 X 43).trans rfl) la st M
theorem e169_44 (X : aX) (la : aLs) (st : List aV) (M : aM) : go X 169 44 la st M = kC X 169 (i_inc 3 (nI 1) 47 la st M) := evC ((pm169 X 44).trans rfl) la st M
theorem e169_47 (X : aX) (la : aLs) (st : List aV) (M : aM) : go X 169 47 la st M = kC X 169 (i_go 13 la st M) := evC ((pm169 X 47).trans rfl) la st M
theorem e169_50 (X : aX) (la : aLs) (st : List aV) (M : aM) : go X 169 50 la st M = kC X 169 (i_lda 0 51 la st M) := evC ((pm169 X 50).trans rfl) la st M
theorem e169_51 (X : aX) (la : aLs) (st : List aV) (M : aM) : go X 169 51 la st M = kC X 169 (i_ldi 2 52 la st M) := evC ((pm169 X 51).trans rfl) la st M
theorem e169_52 (X : aX) (la : aLs) (st : List aV) (M : aM) : go X 169 52 la st M = kK X 169 147 2 55 7 la st M := evK ((pm169 X 52).trans rfl) la st M
theorem e169_55 (X : aX) (la : aLs) (st : List aV) (M : aM) : go X 169 55 la st M = kC X 169 (i_lda 0 56 la st M) := evC ((pm169 X 55).trans rfl) la st M
theorem e169_56 (X : aX) (la : aLs) (st : List aV) (M : aM) : go X 169 56 la st M = kC X 169 (i_get 6 0 59 la st M) := evC ((pm169 X 56).trans rfl) la st M
theorem e169_59 (X : aX) (la : aLs) (st : List aV) (M : aM) : go X 169 59 la st M = kC X 169 (i_ci (nI 3) 60 la st M) := evC ((pm169 X 59).trans rfl) la st M
theorem e169_60 (X : aX) (la : aLs) (st : List aV) (M : aM) : go X 169 60 la st M = kC X 169 (i_ial X 61 la st M) := evC ((pm169 X 60).trans rfl) la st M
theorem e169_61 (X : aX) (la : aLs) (st : List aV) (M : aM) : go X 169 61 la st M = kC X 169 (i_ldi 2 62 la st M) := evC ((pm169 X 61).trans rfl) la st M
theorem e169_62 (X : aX) (la : aLs) (st : List aV) (M : aM) : go X 169 62 la st M = kC X 169 (i_cml 69 65 la st M) := evC ((pm169 X 62).trans rfl) la st M
theorem e169_65 (X : aX) (la : aLs) (st : List aV) (M : aM) : go X 169 65 la st M = kC X 169 (i_ci (nI 1) 66 la st M) := evC ((pm169 X 65).trans rfl) la st M
theorem e169_66 (X : aX) (la : aLs) (st : List aV) (M : aM) : go X 169 66 la st M = kC X 169 (i_go 70 la st M) := evC ((pm169 X 66).trans rfl) la st M
theorem e169_69 (X : aX) (la : aLs) (st : List aV) (M : aM) : go X 169 69 la st M = kC X 169 (i_ci (nI 0) 70 la st M) := evC ((pm169 X 69).trans rfl) la st M
theorem e169_70 (X : aX) (la : aLs) (st : List aV) (M : aM) : go X 169 70 la st M = kC X 169 (i_sti 3 71 la st M) := evC ((pm169 X 70).trans rfl) la st M
theorem e169_71 (X : aX) (la : aLs) (st : List aV) (M : aM) : go X 169 71 la st M = kC X 169 (i_lda 0 72 la st M) := evC ((pm169 X 71).trans rfl) la st M
theorem e169_72 (X : aX) (la : aLs) (st : List aV) (M : aM) : go X 169 72 la st M = kC X 169 (i_get 6 2 75 la st M) := evC ((pm169 X 72).trans rfl) la st M
theorem e169_75 (X : aX) (la : aLs) (st : List aV) (M : aM) : go X 169 75 la st M = kC X 169 (i_lda 0 76 la st M) := evC ((pm169 X 75).trans rfl) la st M
theorem e169_76 (X : aX) (la : aLs) (st : List aV) (M : aM) : go X 169 76 la st M = kC X 169 (i_get 6 0 79 la st M) := evC ((pm169 X 76).trans rfl) la st M
theorem e169_79 (X : aX) (la : aLs) (st : List aV) (M : aM) : go X 169 79 la st M = kK X 169 116 2 82 0 la st M := evK ((pm169 X 79).trans rfl) la st M
theorem e169_82 (X : aX) (la : aLs) (st : List aV) (M : aM) : go X 169 82 la st M = kC X 169 (i_ldi 3 83 la st M) := evC ((pm169 X 82).trans rfl) la st M
theorem e169_83 (X : aX) (la : aLs) (st : List aV) (M : aM) : go X 169 83 la st M = i_zrt st M := evR ((pm169 X 83).trans rfl) la st M
theorem c169 (X : aX) (as : List aV) (M : aM) : cl X 169 as M = if cs as ≤ 4 then go X 169 0 (ent 4 as) [] M else none := rfl
theorem pm170 (X : aX) (pc : Nat) : pg X 170 pc = lk pc (tb170 X) := rfl
theorem e170_0 (X : aX) (la : aLs) (st : List aV) (M : aM) : go X 170 0 la st M = kC X 170 (i_ldi 1 1 la st M) := evC ((pm170 X 0).trans rfl) la st M
theorem e170_1 (X : aX) (la : aLs) (st : List aV) (M : aM) : go X 170 1 la st M = kC X 170 (i_ci (nI 0) 2 la st M) := evC ((pm170 X 1).trans rfl) la st M
theorem e170_2 (X : aX) (la : aLs) (st : List aV) (M : aM) : go X 170 2 la st M = kC X 170 (i_ci (nI 60) 4 la st M) := evC ((pm170 X 2).trans rfl) la st M
theorem e170_4 (X : aX) (la : aLs) (st : List aV) (M : aM) : go X 170 4 la st M = kK X 170 114 3 7 0 la st M := evK ((pm170 X 4).trans rfl) la st M
theorem e170_7 (X : aX) (la : aLs) (st : List aV) (M : aM) : go X 170 7 la st M = kC X 170 (i_ife 10 17 la st M) := evC ((pm170 X 7).trans rfl) la st M
theorem e170_10 (X : aX) (la : aLs) (st : List aV) (M : aM) : go X 170 10 la st M = kC X 170 (i_lda 0 11 la st M) := evC ((pm170 X 10).trans rfl) la st M
theorem e170_11 (X : aX) (la : aLs) (st : List aV) (M : aM) : go X 170 11 la st M = kC X 170 (i_ci (-1000001) 13 la st M) := evC ((pm170 X 11).trans rfl) la st M
theorem e170_13 (X : aX) (la : aLs) (st : List aV) (M : aM) : go X 170 13 la st M = kK X 170 113 2 16 7 la st M := evK ((pm170 X 13).trans rfl) la st M
theorem e170_16 (X : aX) (la : aLs) (st : List aV) (M : aM) : go X 170 16 la st M = i_irt st M := evR ((pm170 X 16).trans rfl) la st M
theorem e170_17 (X : aX) (la : aLs) (st : List aV) (M : aM) : go X 170 17 la st M = kC X 170 (i_ci (-1) 18 la st M) := evC ((pm170 X 17).trans rfl) la st M
theorem e170_18 (X : aX) (la : aLs) (st : List aV) (M : aM) : go X 170 18 la st M = kC X 170 (i_sti 2 19 la st M) := evC ((pm170 X 18).trans rfl) la st M
theorem e170_19 (X : aX) (la : aLs) (st : List aV) (M : aM) : go X 170 19 la st M = kC X 170 (i_ci (nI 1) 20 la st M) := evC ((pm170 X 19).trans rfl) la st M
theorem e170_20 (X : aX) (la : aLs) (st : List aV) (M : aM) : go X 170 20 la st M = kC X 170 (i_lda 0 21 la st M) := evC ((pm170 X 20).trans rfl) la st M
theorem e170_21 (X : aX) (la : aLs) (st : List aV) (M : aM) : go X 170 21 la st M = kC X 170 (i_get 6 0 24 la st M) := evC ((pm170 X 21).trans rfl) la st M
theorem e170_24 (X : aX) (la : aLs) (st : List aV) (M : aM) : go X 170 24 la st M = kC X 170 (i_ci (nI 1) 25 la st M) := evC ((pm170 X 24).trans rfl) la st M
theorem e170_25 (X : aX) (la : aLs) (st : List aV) (M : aM) : go X 170 25 la st M = kC X 170 (i_ial X 26 la st M) := evC ((pm170 X 25).trans rfl) la st M
theorem e170_26 (X : aX) (la : aLs) (st : List aV) (M : aM) : go X 170 26 la st M = kC X 170 (i_bin (fun x y => x <<< (y &&& 31)) 27 la st M) := evC ((pm170 X 26).trans rfl) la st M
theorem e170_27 (X : aX) (la : aLs) (st : List aV) (M : aM) : go X 170 27 la st M = kC X 170 (i_ci (nI 1) 28 la st M) := evC ((pm170 X 27).trans rfl) la st M
theorem e170_28 (X : aX) (la : aLs) (st : List aV) (M : aM) : go X 170 28 la st M = kC X 170 (i_bin (fun x y => x - y) 29 la st M) := evC ((pm170 X 28).trans rfl) la st M
theorem e170_29 (X : aX) (la : aLs) (st : List aV) (M : aM) : go X 170 29 la st M = kC X 170 (i_sti 3 30 la st M) := evC ((pm170 X 29).trans rfl) la st M
theorem e170_30 (X : aX) (la : aLs) (st : List aV) (M : aM) : go X 170 30 la st M = kC X 170 (i_ldi 3 31 la st M) := evC ((pm170 X 30).trans rfl) la st M
theorem e170_31 (X : aX) (la : aLs) (st : List aV) (M : aM) : go X 170 31 la st M = kC X 170 (i_ifl 70 34 la st M) := evC ((pm170 X 31).trans rfl) la st M
theorem e170_34 (X : aX) (la : aLs) (st : List aV) (M : aM) : go X 170 34 la st M = kC X 170 (i_ldi 2 35 la st M) := evC ((pm170 X 34).trans rfl) la st M
theorem e170_35 (X : aX) (la : aLs) (st : List aV) (M : aM) : go X 170 35 la st M = kC X 170 (i_ifl 49 38 la st M) := evC ((pm170 X 35).trans rfl) la st M
theorem e170_38 (X : aX) (la : aLs) (st : List aV) (M : aM) : go X 170 38 la st M = kC X 170 (i_ldi 3 39 la st M) := evC ((pm170 X 38).trans rfl) la st M
theorem e170_39 (X : aX) (la : aLs) (st : List aV) (M : aM) : go X 170 39 la st M = kK X 170 119 1 42 0 la st M := evK ((pm170 X 39).trans rfl) la st M
theorem e170_42 (X : aX) (la : aLs) (st : List aV) (M : aM) : go X 170 42 la st M = kC X 170 (i_ldi 2 43 la st M) := evC ((pm170 X 42).trans rfl) la st M
theorem e170_43 (X : aX) (la : aLs) (st : List aV) (M : aM) : go X 170 43 la st M = kK X 170 119 1 46 0 la st M := evK ((pm170 X 43).trans rfl) la st M
theorem e170_46 (X : aX) (la : aLs) (st : List aV) (M : aM) : go X 170 46 la st M = kC X 170 (i_cmg 62 49 la st M) := evC ((pm170 X 46).trans rfl) la st M
theorem e170_49 (X : aX) (la : aLs) (st : List aV) (M : aM) : go X 170 49 la st M = kC X 170 (i_lda 0 50 la st M) := evC ((pm170 X 49).trans rfl) la st M
theorem e170_50 (X : aX) (la : aLs) (st : List aV) (M : aM) : go X 170 50 la st M = kC X 170 (i_ldi 3 51 la st M) := evC ((pm170 X 50).trans rfl) la st M
theorem e170_51 (X : aX) (la : aLs) (st : List aV) (M : aM) : go X 170 51 la st M = kC X 170 (i_ldi 1 52 la st M) := evC ((pm170 X 51).trans rfl) la st M
theorem e170_52 (X : aX) (la : aLs) (st : List aV) (M : aM) : go X 170 52 la st M = kK X 170 169 3 55 7 la st M := evK ((pm170 X 52).trans rfl) la st M
theorem e170_55 (X : aX) (la : aLs) (st : List aV) (M : aM) : go X 170 55 la st M = kC X 170 (i_ife 62 58 la st M) := evC ((pm170 X 55).trans rfl) la st M
theorem e170_58 (X : aX) (la : aLs) (st : List aV) (M : aM) : go X 170 58 la st M = kC X 170 (i_ldi 3 59 la st M) := evC ((pm170 X 58).trans rfl) la st M
theorem e170_59 (X : aX) (la : aLs) (st : List aV) (M : aM) : go X 170 59 la st M = kC X 170 (i_go 63 la st M) := evC ((pm170 X 59).trans rfl) la st M
theorem e170_62 (X : aX) (la : aLs) (st : List aV) (M : aM) : go X 170 62 la st M = kC X 170 (i_ldi 2 63 la st M) := evC ((pm170 X 62).trans rfl) la st M
theorem e170_63 (X : aX) (la : aLs) (st : List aV) (M : aM) : go X 170 63 la st M = kC X 170 (i_sti 2 64 la st M) := evC ((pm170 X 63).trans rfl) la st M
theorem e170_64 (X : aX) (la : aLs) (st : List aV) (M : aM) : go X 170 64 la st M = kC X 170 (i_inc 3 (-1) 67 la st M) := evC ((pm170 X 64).trans rfl) la st M
theorem e170_67 (X : aX) (la : aLs) (st : List aV) (M : aM) : go X 170 67 la st M = kC X 170 (i_go 30 la st M) := evC ((pm170 X 67).trans rfl) la st M
theorem e170_70 (X : aX) (la : aLs) (st : List aV) (M : aM) : go X 170 70 la st M = kC X 170 (i_lda 0 71 la st M) := evC ((pm170 X 70).trans rfl) la st M
theorem e170_71 (X : aX) (la : aLs) (st : List aV) (M : aM) : go X 170 71 la st M = kC X 170 (i_ldi 2 72 la st M) := evC ((pm170 X 71).trans rfl) la st M
theorem e170_72 (X : aX) (la : aLs) (st : List aV) (M : aM) : go X 170 72 la st M = kK X 170 118 2 75 7 la st M := evK ((pm170 X 72).trans rfl) la st M
theorem e170_75 (X : aX) (la : aLs) (st : List aV) (M : aM) : go X 170 75 la st M = i_irt st M := evR ((pm170 X 75).trans rfl) la st M
theorem c170 (X : aX) (as : List aV) (M : aM) : cl X 170 as M = if cs as ≤ 4 then go X 170 0 (ent 4 as) [] M else none := rfl
theorem pm171 (X : aX) (pc : Nat) : pg X 171 pc = lk pc (tb171 X) := rfl
theorem e171_0 (X : aX) (la : aLs) (st : List aV) (M : aM) : go X 171 0 la st M = kC X 171 (i_ldi 1 1 la st M) := evC ((pm171 X 0).trans rfl) la st M
theorem e171_1 (X : aX) (la : aLs) (st : List aV) (M : aM) : go X 171 1 la st M = kC X 171 (i_ci (nI 0) 2 la st M) := evC ((pm171 X 1).trans rfl) la st M
theorem e171_2 (X : aX) (la : aLs) (st : List aV) (M : aM) : go X 171 2 la st M = kC X 171 (i_ci (nI 200) 5 la st M) := evC ((pm171 X 2).trans rfl) la st M
theorem e171_5 (X : aX) (la : aLs) (st : List aV) (M : aM) : go X 171 5 la st M = kK X 171 114 3 8 0 la st M := evK ((pm171 X 5).trans rfl) la st M
theorem e171_8 (X : aX) (la : aLs) (st : List aV) (M : aM) : go X 171 8 la st M = kC X 171 (i_ife 11 18 la st M) := evC ((pm171 X 8).trans rfl) la st M
theorem e171_11 (X : aX) (la : aLs) (st : List aV) (M : aM) : go X 171 11 la st M = kC X 171 (i_lda 0 12 la st M) := evC ((pm171 X 11).trans rfl) la st M
theorem e171_12 (X : aX) (la : aLs) (st : List aV) (M : aM) : go X 171 12 la st M = kC X 171 (i_ci (-1000001) 14 la st M) := evC ((pm171 X 12).trans rfl) la st M
theorem e171_14 (X : aX) (la : aLs) (st : List aV) (M : aM) : go X 171 14 la st M = kK X 171 113 2 17 7 la st M := evK ((pm171 X 14).trans rfl) la st M
theorem e171_17 (X : aX) (la : aLs) (st : List aV) (M : aM) : go X 171 17 la st M = i_irt st M := evR ((pm171 X 17).trans rfl) la st M
theorem e171_18 (X : aX) (la : aLs) (st : List aV) (M : aM) : go X 171 18 la st M = kC X 171 (i_lda 0 19 la st M) := evC ((pm171 X 18).trans rfl) la st M
theorem e171_19 (X : aX) (la : aLs) (st : List aV) (M : aM) : go X 171 19 la st M = kC X 171 (i_get 6 0 22 la st M) := evC ((pm171 X 19).trans rfl) la st M
theorem e171_22 (X : aX) (la : aLs) (st : List aV) (M : aM) : go X 171 22 la st M = kC X 171 (i_lda 0 23 la st M) := evC ((pm171 X 22).trans rfl) la st M
theorem e171_23 (X : aX) (la : aLs) (st : List aV) (M : aM) : go X 171 23 la st M = kC X 171 (i_get 6 2 26 la st M) := evC ((pm171 X 23).trans rfl) la st M
theorem e171_26 (X : aX) (la : aLs) (st : List aV) (M : aM) : go X 171 26 la st M = kK X 171 116 2 29 0 la st M := evK ((pm171 X 26).trans rfl) la st M
theorem e171_29 (X : aX) (la : aLs) (st : List aV) (M : aM) : go X 171 29 la st M = kC X 171 (i_lda 0 30 la st M) := evC ((pm171 X 29).trans rfl) la st M
theorem e171_30 (X : aX) (la : aLs) (st : List aV) (M : aM) : go X 171 30 la st M = kC X 171 (i_get 6 0 33 la st M) := evC ((pm171 X 30).trans rfl) la st M
theorem e171_33 (X : aX) (la : aLs) (st : List aV) (M : aM) : go X 171 33 la st M = kC X 171 (i_ci (nI 3) 34 la st M) := evC ((pm171 X 33).trans rfl) la st M
theorem e171_34 (X : aX) (la : aLs) (st : List aV) (M : aM) : go X 171 34 la st M = kC X 171 (i_ial X 35 la st M) := evC ((pm171 X 34).trans rfl) la st M
theorem e171_35 (X : aX) (la : aLs) (st : List aV) (M : aM) : go X 171 35 la st M = kC X 171 (i_sti 2 36 la st M) := evC ((pm171 X 35).trans rfl) la st M
theorem e171_36 (X : aX) (la : aLs) (st : List aV) (M : aM) : go X 171 36 la st M = kC X 171 (i_ci (nI 0) 37 la st M) := evC ((pm171 X 36).trans rfl) la st M
theorem e171_37 (X : aX) (la : aLs) (st : List aV) (M : aM) : go X 171 37 la st M = kC X 171 (i_sti 3 38 la st M) := evC ((pm171 X 37).trans rfl) la st M
theorem e171_38 (X : aX) (la : aLs) (st : List aV) (M : aM) : go X 171 38 la st M = kC X 171 (i_ldi 3 39 la st M) := evC ((pm171 X 38).trans rfl) la st M
theorem e171_39 (X : aX) (la : aLs) (st : List aV) (M : aM) : go X 171 39 la st M = kC X 171 (i_ldi 1 40 la st M) := evC ((pm171 X 39).trans rfl) la st M
theorem e171_40 (X : aX) (la : aLs) (st : List aV) (M : aM) : go X 171 40 la st M = kC X 171 (i_cml 43 64 la st M) := evC ((pm171 X 40).trans rfl) la st M
theorem e171_43 (X : aX) (la : aLs) (st : List aV) (M : aM) : go X 171 43 la st M = kC X 171 (i_lda 0 44 la st M) := evC ((pm171 X 43).trans rfl) la st M
theorem e171_44 (X : aX) (la : aLs) (st : List aV) (M : aM) : go X 171 44 la st M = kK X 171 146 1 47 7 la st M := evK ((pm171 X 44).trans rfl) la st M
theorem e171_47 (X : aX) (la : aLs) (st : List aV) (M : aM) : go X 171 47 la st M = kC X 171 (i_ldi 2 48 la st M) := evC ((pm171 X 47).trans rfl) la st M
theorem e171_48 (X : aX) (la : aLs) (st : List aV) (M : aM) : go X 171 48 la st M = kC X 171 (i_lda 0 49 la st M) := evC ((pm171 X 48).trans rfl) la st M
theorem e171_49 (X : aX) (la : aLs) (st : List aV) (M : aM) : go X 171 49 la st M = kC X 171 (i_get 6 0 52 la st M) := evC ((pm171 X 49).trans rfl) la st M
theorem e171_52 (X : aX) (la : aLs) (st : List aV) (M : aM) : go X 171 52 la st M = kC X 171 (i_ci (nI 3) 53 la st M) := evC ((pm171 X 52).trans rfl) la st M
theorem e171_53 (X : aX) (la : aLs) (st : List aV) (M : aM) : go X 171 53 la st M = kC X 171 (i_ial X 54 la st M) := evC ((pm171 X 53).trans rfl) la st M
theorem e171_54 (X : aX) (la : aLs) (st : List aV) (M : aM) : go X 171 54 la st M = kC X 171 (i_max 57 la st M) := evC ((pm171 X 54).trans rfl) la st M
theorem e171_57 (X : aX) (la : aLs) (st : List aV) (M : aM) : go X 171 57 la st M = kC X 171 (i_sti 2 58 la st M) := evC ((pm171 X 57).trans rfl) la st M
theorem e171_58 (X : aX) (la : aLs) (st : List aV) (M : aM) : go X 171 58 la st M = kC X 171 (i_inc 3 (nI 1) 61 la st M) := evC ((pm171 X 58).trans rfl) la st M
theorem e171_61 (X : aX) (la : aLs) (st : List aV) (M : aM) : go X 171 61 la st M = kC X 171 (i_go 38 la st M) := evC ((pm171 X 61).trans rfl) la st M
theorem e171_64 (X : aX) (la : aLs) (st : List aV) (M : aM) : go X 171 64 la st M = kC X 171 (i_lda 0 65 la st M) := evC ((pm171 X 64).trans rfl) la st M
theorem e171_65 (X : aX) (la : aLs) (st : List aV) (M : aM) : go X 171 65 la st M = kC X 171 (i_ldi 2 66 la st M) := evC ((pm171 X 65).trans rfl) la st M
theorem e171_66 (X : aX) (la : aLs) (st : List aV) (M : aM) : go X 171 66 la st M = kK X 171 117 2 69 7 la st M := evK ((pm171 X 66).trans rfl) la st M
theorem e171_69 (X : aX) (la : aLs) (st : List aV) (M : aM) : go X 171 69 la st M = i_irt st M := evR ((pm171 X 69).trans rfl) la st M
theorem c171 (X : aX) (as : List aV) (M : aM) : cl X 171 as M = if cs as ≤ 4 then go X 171 0 (ent 4 as) [] M else none := rfl
theorem pm172 (X : aX) (pc : Nat) : pg X 172 pc = lk pc (tb172 X) := rfl
theorem e172_0 (X : aX) (la : aLs) (st : List aV) (M : aM) : go X 172 0 la st M = kC X 172 (i_ldi 1 1 la st M) := evC ((pm172 X 0).trans rfl) la st M
theorem e172_1 (X : aX) (la : aLs) (st : List aV) (M : aM) : go X 172 1 la st M = kK X 172 199 1 4 0 la st M := evK ((pm172 X 1).trans rfl) la st M
theorem e172_4 (X : aX) (la : aLs) (st : List aV) (M : aM) : go X 172 4 la st M = kC X 172 (i_ife 7 12 la st M) := evC ((pm172 X 4).trans rfl) la st M
theorem e172_7 (X : aX) (la : aLs) (st : List aV) (M : aM) : go X 172 7 la st M = kC X 172 (i_ci (-1000001) 9 la st M) := evC ((pm172 X 7).trans rfl) la st M
theorem e172_9 (X : aX) (la : aLs) (st : List aV) (M : aM) : go X 172 9 la st M = kC X 172 (i_go 36 la st M) := evC ((pm172 X 9).trans rfl) la st M
theorem e172_12 (X : aX) (la : aLs) (st : List aV) (M : aM) : go X 172 12 la st M = kC X 172 (i_lda 0 13 la st M) := evC ((pm172 X 12).trans rfl) la st M
theorem e172_13 (X : aX) (la : aLs) (st : List aV) (M : aM) : go X 172 13 la st M = kC X 172 (i_get 6 18 16 la st M) := evC ((pm172 X 13).trans rfl) la st M
theorem e172_16 (X : aX) (la : aLs) (st : List aV) (M : aM) : go X 172 16 la st M = kC X 172 (i_ldi 1 17 la st M) := evC ((pm172 X 16).trans rfl) la st M
theorem e172_17 (X : aX) (la : aLs) (st : List aV) (M : aM) : go X 172 17 la st M = kC X 172 (i_ial X 18 la st M) := evC ((pm172 X 17).trans rfl) la st M
theorem e172_18 (X : aX) (la : aLs) (st : List aV) (M : aM) : go X 172 18 la st M = kC X 172 (i_ife 21 26 la st M) := evC ((pm172 X 18).trans rfl) la st M
theorem e172_21 (X : aX) (la : aLs) (st : List aV) (M : aM) : go X 172 21 la st M = kC X 172 (i_ci (-1000006) 23 la st M) := evC ((pm172 X 21).trans rfl) la st M
theorem e172_23 (X : aX) (la : aLs) (st : List aV) (M : aM) : go X 172 23 la st M = kC X 172 (i_go 36 la st M) := evC ((pm172 X 23).trans rfl) la st M
theorem e172_26 (X : aX) (la : aLs) (st : List aV) (M : aM) : go X 172 26 la st M = kC X 172 (i_ldi 2 27 la st M) := evC ((pm172 X 26).trans rfl) la st M
theorem e172_27 (X : aX) (la : aLs) (st : List aV) (M : aM) : go X 172 27 la st M = kC X 172 (i_ife 34 30 la st M) := evC ((pm172 X 27).trans rfl) la st M
theorem e172_30 (X : aX) (la : aLs) (st : List aV) (M : aM) : go X 172 30 la st M = kC X 172 (i_ci (nI 0) 31 la st M) := evC ((pm172 X 30).trans rfl) la st M
theorem e172_31 (X : aX) (la : aLs) (st : List aV) (M : aM) : go X 172 31 la st M = kC X 172 (i_go 36 la st M) := evC ((pm172 X 31).trans rfl) la st M
theorem e172_34 (X : aX) (la : aLs) (st : List aV) (M : aM) : go X 172 34 la st M = kC X 172 (i_ci (-1000001) 36 la st M) := evC ((pm172 X 34).trans rfl) la st M
theorem e172_36 (X : aX) (la : aLs) (st : List aV) (M : aM) : go X 172 36 la st M = i_irt st M := evR ((pm172 X 36).trans rfl) la st M
theorem c172 (X : aX) (as : List aV) (M : aM) : cl X 172 as M = if cs as ≤ 3 then go X 172 0 (ent 3 as) [] M else none := rfl
theorem pm173 (X : aX) (pc : Nat) : pg X 173 pc = lk pc (tb173 X) := rfl
theorem e173_0 (X : aX) (la : aLs) (st : List aV) (M : aM) : go X 173 0 la st M = kC X 173 (i_lda 0 1 la st M) := evC ((pm173 X 0).trans rfl) la st M
theorem e173_1 (X : aX) (la : aLs) (st : List aV) (M : aM) : go X 173 1 la st M = kC X 173 (i_get 6 0 4 la st M) := evC ((pm173 X 1).trans rfl) la st M
theorem e173_4 (X : aX) (la : aLs) (st : List aV) (M : aM) : go X 173 4 la st M = kC X 173 (i_lda 0 5 la st M) := evC ((pm173 X 4).trans rfl) la st M
theorem e173_5 (X : aX) (la : aLs) (st : List aV) (M : aM) : go X 173 5 la st M = kC X 173 (i_get 6 2 8 la st M) := evC ((pm173 X 5).trans rfl) la st M
theorem e173_8 (X : aX) (la : aLs) (st : List aV) (M : aM) : go X 173 8 la st M = kK X 173 116 2 11 0 la st M := evK ((pm173 X 8).trans rfl) la st M
theorem e173_11 (X : aX) (la : aLs) (st : List aV) (M : aM) : go X 173 11 la st M = kC X 173 (i_ci (nI 1) 12 la st M) := evC ((pm173 X 11).trans rfl) la st M
theorem e173_12 (X : aX) (la : aLs) (st : List aV) (M : aM) : go X 173 12 la st M = kC X 173 (i_sti 3 13 la st M) := evC ((pm173 X 12).trans rfl) la st M
theorem e173_13 (X : aX) (la : aLs) (st : List aV) (M : aM) : go X 173 13 la st M = kC X 173 (i_ci (nI 0) 14 la st M) := evC ((pm173 X 13).trans rfl) la st M
theorem e173_14 (X : aX) (la : aLs) (st : List aV) (M : aM) : go X 173 14 la st M = kC X 173 (i_sti 4 16 la st M) := evC ((pm173 X 14).trans rfl) la st M
theorem e173_16 (X : aX) (la : aLs) (st : List aV) (M : aM) : go X 173 16 la st M = kC X 173 (i_ldi 4 18 la st M) := evC ((pm173 X 16).trans rfl) la st M
theorem e173_18 (X : aX) (la : aLs) (st : List aV) (M : aM) : go X 173 18 la st M = kC X 173 (i_lda 0 19 la st M) := evC ((pm173 X 18).trans rfl) la st M
theorem e173_19 (X : aX) (la : aLs) (st : List aV) (M : aM) : go X 173 19 la st M = kC X 173 (i_get 6 19 22 la st M) := evC ((pm173 X 19).trans rfl) la st M
theorem e173_22 (X : aX) (la : aLs) (st : List aV) (M : aM) : go X 173 22 la st M = kC X 173 (i_ldi 1 23 la st M) := evC ((pm173 X 22).trans rfl) la st M
theorem e173_23 (X : aX) (la : aLs) (st : List aV) (M : aM) : go X 173 23 la st M = kC X 173 (i_ial X 24 la st M) := evC ((pm173 X 23).trans rfl) la st M
theorem e173_24 (X : aX) (la : aLs) (st : List aV) (M : aM) : go X 173 24 la st M = kC X 173 (i_cml 27 78 la st M) := evC ((pm173 X 24).trans rfl) la st M
theorem e173_27 (X : aX) (la : aLs) (st : List aV) (M : aM) : go X 173 27 la st M = kC X 173 (i_ldi 3 28 la st M) := evC ((pm173 X 27).trans rfl) la st M
theorem e173_28 (X : aX) (la : aLs) (st : List aV) (M : aM) : go X 173 28 la st M = kC X 173 (i_ife 78 31 la st M) := evC ((pm173 X 28).trans rfl) la st M
theorem e173_31 (X : aX) (la : aLs) (st : List aV) (M : aM) : go X 173 31 la st M = kC X 173 (i_lda 0 32 la st M) := evC ((pm173 X 31).trans rfl) la st M
theorem e173_32 (X : aX) (la : aLs) (st : List aV) (M : aM) : go X 173 32 la st M = kC X 173 (i_get 6 20 35 la st M) := evC ((pm173 X 32).trans rfl) la st M
theorem e173_35 (X : aX) (la : aLs) (st : List aV) (M : aM) : go X 173 35 la st M = kC X 173 (i_ci (nI 40) 37 la st M) := evC ((pm173 X 35).trans rfl) la st M
theorem e173_37 (X : aX) (la : aLs) (st : List aV) (M : aM) : go X 173 37 la st M = kC X 173 (i_ldi 1 38 la st M) := evC ((pm173 X 37).trans rfl) la st M
theorem e173_38 (X : aX) (la : aLs) (st : List aV) (M : aM) : go X 173 38 la st M = kC X 173 (i_bin (fun x y => x * y) 39 la st M) := evC ((pm173 X 38).trans rfl) la st M
theorem e173_39 (X : aX) (la : aLs) (st : List aV) (M : aM) : go X 173 39 la st M = kC X 173 (i_ldi 4 41 la st M) := evC ((pm173 X 39).trans rfl) la st M
theorem e173_41 (X : aX) (la : aLs) (st : List aV) (M : aM) : go X 173 41 la st M = kC X 173 (i_bin (fun x y => x + y) 42 la st M) := evC ((pm173 X 41).trans rfl) la st M
theorem e173_42 (X : aX) (la : aLs) (st : List aV) (M : aM) : go X 173 42 la st M = kC X 173 (i_ial X 43 la st M) := evC ((pm173 X 42).trans rfl) la st M
theorem e173_43 (X : aX) (la : aLs) (st : List aV) (M : aM) : go X 173 43 la st M = kC X 173 (i_sti 5 45 la st M) := evC ((pm173 X 43).trans rfl) la st M
theorem e173_45 (X : aX) (la : aLs) (st : List aV) (M : aM) : go X 173 45 la st M = kC X 173 (i_ldi 5 47 la st M) := evC ((pm173 X 45).trans rfl) la st M
theorem e173_47 (X : aX) (la : aLs) (st : List aV) (M : aM) : go X 173 47 la st M = kC X 173 (i_ci (-1) 48 la st M) := evC ((pm173 X 47).trans rfl) la st M
theorem e173_48 (X : aX) (la : aLs) (st : List aV) (M : aM) : go X 173 48 la st M = kC X 173 (i_cme 62 51 la st M) := evC ((pm173 X 48).trans rfl) la st M
theorem e173_51 (X : aX) (la : aLs) (st : List aV) (M : aM) : go X 173 51 la st M = kC X 173 (i_ldi 5 53 la st M) := evC ((pm173 X 51).trans rfl) la st M
theorem e173_53 (X : aX) (la : aLs) (st : List aV) (M : aM) : go X 173 53 la st M = kC X 173 (i_lda 0 54 la st M) := evC ((pm173 X 53).trans rfl) la st M
theorem e173_54 (X : aX) (la : aLs) (st : List aV) (M : aM) : go X 173 54 la st M = kC X 173 (i_get 6 0 57 la st M) := evC ((pm173 X 54).trans rfl) la st M
theorem e173_57 (X : aX) (la : aLs) (st : List aV) (M : aM) : go X 173 57 la st M = kC X 173 (i_ldi 2 58 la st M) := evC ((pm173 X 57).trans rfl) la st M
theorem e173_58 (X : aX) (la : aLs) (st : List aV) (M : aM) : go X 173 58 la st M = kC X 173 (i_ial X 59 la st M) := evC ((pm173 X 58).trans rfl) la st M
theorem e173_59 (X : aX) (la : aLs) (st : List aV) (M : aM) : go X 173 59 la st M = kC X 173 (i_cme 62 66 la st M) := evC ((pm173 X 59).trans rfl) la st M
theorem e173_62 (X : aX) (la : aLs) (st : List aV) (M : aM) : go X 173 62 la st M = kC X 173 (i_ci (nI 1) 63 la st M) := evC ((pm173 X 62).trans rfl) la st M
theorem e173_63 (X : aX) (la : aLs) (st : List aV) (M : aM) : go X 173 63 la st M = kC X 173 (i_go 67 la st M) := evC ((pm173 X 63).trans rfl) la st M
theorem e173_66 (X : aX) (la : aLs) (st : List aV) (M : aM) : go X 173 66 la st M = kC X 173 (i_ci (nI 0) 67 la st M) := evC ((pm173 X 66).trans rfl) la st M
theorem e173_67 (X : aX) (la : aLs) (st : List aV) (M : aM) : go X 173 67 la st M = kC X 173 (i_sti 3 68 la st M) := evC ((pm173 X 67).trans rfl) la st M
theorem e173_68 (X : aX) (la : aLs) (st : List aV) (M : aM) : go X 173 68 la st M = kC X 173 (i_lda 0 69 la st M) := evC ((pm173 X 68).trans rfl) la st M
theorem e173_69 (X : aX) (la : aLs) (st : List aV) (M : aM) : go X 173 69 la st M = kK X 173 146 1 72 7 la st M := evK ((pm173 X 69).trans rfl) la st M
theorem e173_72 (X : aX) (la : aLs) (st : List aV) (M : aM) : go X 173 72 la st M = kC X 173 (i_inc 4 (nI 1) 75 la st M) := evC ((pm173 X 72).trans rfl) la st M
theorem e173_75 (X : aX) (la : aLs) (st : List aV) (M : aM) : go X 173 75 la st M = kC X 173 (i_go 16 la st M) := evC ((pm173 X 75).trans rfl) la st M
theorem e173_78 (X : aX) (la : aLs) (st : List aV) (M : aM) : go X 173 78 la st M = kC X 173 (i_lda 0 79 la st M) := evC ((pm173 X 78).trans rfl) la st M
theorem e173_79 (X : aX) (la : aLs) (st : List aV) (M : aM) : go X 173 79 la st M = kC X 173 (i_get 6 2 82 la st M) := evC ((pm173 X 79).trans rfl) la st M
theorem e173_82 (X : aX) (la : aLs) (st : List aV) (M : aM) : go X 173 82 la st M = kC X 173 (i_lda 0 83 la st M) := evC ((pm173 X 82).trans rfl) la st M
theorem e173_83 (X : aX) (la : aLs) (st : List aV) (M : aM) : go X 173 83 la st M = kC X 173 (i_get 6 0 86 la st M) := evC ((pm173 X 83).trans rfl) la st M
theorem e173_86 (X : aX) (la : aLs) (st : List aV) (M : aM) : go X 173 86 la st M = kK X 173 116 2 89 0 la st M := evK ((pm173 X 86).trans rfl) la st M
theorem e173_89 (X : aX) (la : aLs) (st : List aV) (M : aM) : go X 173 89 la st M = kC X 173 (i_ldi 3 90 la st M) := evC ((pm173 X 89).trans rfl) la st M
theorem e173_90 (X : aX) (la : aLs) (st : List aV) (M : aM) : go X 173 90 la st M = i_zrt st M := evR ((pm173 X 90).trans rfl) la st M
theorem c173 (X : aX) (as : List aV) (M : aM) : cl X 173 as M = if cs as ≤ 6 then go X 173 0 (ent 6 as) [] M else none := rfl
theorem pm174 (X : aX) (pc : Nat) : pg X 174 pc = lk pc (tb174 X) := rfl
theorem e174_0 (X : aX) (la : aLs) (st : List aV) (M : aM) : go X 174 0 la st M = kC X 174 (i_lda 0 1 la st M) := evC ((pm174 X 0).trans rfl) la st M
theorem e174_1 (X : aX) (la : aLs) (st : List aV) (M : aM) : go X 174 1 la st M = kC X 174 (i_get 6 0 4 la st M) := evC ((pm174 X 1).trans rfl) la st M
theorem e174_4 (X : aX) (la : aLs) (st : List aV) (M : aM) : go X 174 4 la st M = kC X 174 (i_ldi 3 5 la st M) := evC ((pm174 X 4).trans rfl) la st M
theorem e174_5 (X : aX) (la : aLs) (st : List aV) (M : aM) : go X 174 5 la st M = kC X 174 (i_ial X 6 la st M) := evC ((pm174 X 5).trans rfl) la st M
theorem e174_6 (X : aX) (la : aLs) (st : List aV) (M : aM) : go X 174 6 la st M = kC X 174 (i_sti 5 8 la st M) := evC ((pm174 X 6).trans rfl) la st M
theorem e174_8 (X : aX) (la : aLs) (st : List aV) (M : aM) : go X 174 8 la st M = kC X 174 (i_ci (nI 0) 9 la st M) := evC ((pm174 X 8).trans rfl) la st M
theorem e174_9 (X : aX) (la : aLs) (st : List aV) (M : aM) : go X 174 9 la st M = kC X 174 (i_sti 6 11 la st M) := evC ((pm174 X 9).trans rfl) la st M
theorem e174_11 (X : aX) (la : aLs) (st : List aV) (M : aM) : go X 174 11 la st M = kC X 174 (i_ci (nI 0) 12 la st M) := evC ((pm174 X 11).trans rfl) la st M
theorem e174_12 (X : aX) (la : aLs) (st : List aV) (M : aM) : go X 174 12 la st M = kC X 174 (i_sti 7 14 la st M) := evC ((pm174 X 12).trans rfl) la st M
theorem e174_14 (X : aX) (la : aLs) (st : List aV) (M : aM) : go X 174 14 la st M = kC X 174 (i_lda 0 15 la st M) := evC ((pm174 X 14).trans rfl) la st M
theorem e174_15 (X : aX) (la : aLs) (st : List aV) (M : aM) : go X 174 15 la st M = kC X 174 (i_ci (-1) 16 la st M) := evC ((pm174 X 15).trans rfl) la st M
theorem e174_16 (X : aX) (la : aLs) (st : List aV) (M : aM) : go X 174 16 la st M = kC X 174 (i_put 6 6 0 19 la st M) := evC ((pm174 X 16).trans rfl) la st M
theorem e174_19 (X : aX) (la : aLs) (st : List aV) (M : aM) : go X 174 19 la st M = kC X 174 (i_ci (nI 0) 20 la st M) := evC ((pm174 X 19).trans rfl) la st M
theorem e174_20 (X : aX) (la : aLs) (st : List aV) (M : aM) : go X 174 20 la st M = kC X 174 (i_sti 8 22 la st M) := evC ((pm174 X 20).trans rfl) la st M
theorem e174_22 (X : aX) (la : aLs) (st : List aV) (M : aM) : go X 174 22 la st M = kC X 174 (i_ldi 8 24 la st M) := evC ((pm174 X 22).trans rfl) la st M
theorem e174_24 (X : aX) (la : aLs) (st : List aV) (M : aM) : go X 174 24 la st M = kC X 174 (i_ldi 4 26 la st M) := evC ((pm174 X 24).trans rfl) la st M
theorem e174_26 (X : aX) (la : aLs) (st : List aV) (M : aM) : go X 174 26 la st M = kC X 174 (i_cml 29 100 la st M) := evC ((pm174 X 26).trans rfl) la st M
theorem e174_29 (X : aX) (la : aLs) (st : List aV) (M : aM) : go X 174 29 la st M = kC X 174 (i_lda 0 30 la st M) := evC ((pm174 X 29).trans rfl) la st M
theorem e174_30 (X : aX) (la : aLs) (st : List aV) (M : aM) : go X 174 30 la st M = kC X 174 (i_get 6 0 33 la st M) := evC ((pm174 X 30).trans rfl) la st M
theorem e174_33 (X : aX) (la : aLs) (st : List aV) (M : aM) : go X 174 33 la st M = kC X 174 (i_ldi 3 34 la st M) := evC ((pm174 X 33).trans rfl) la st M
theorem e174_34 (X : aX) (la : aLs) (st : List aV) (M : aM) : go X 174 34 la st M = kC X 174 (i_ldi 8 36 la st M) := evC ((pm174 X 34).trans rfl) la st M
theorem e174_36 (X : aX) (la : aLs) (st : List aV) (M : aM) : go X 174 36 la st M = kC X 174 (i_ias 37 la st M) := evC ((pm174 X 36).trans rfl) la st M
theorem e174_37 (X : aX) (la : aLs) (st : List aV) (M : aM) : go X 174 37 la st M = kC X 174 (i_lda 0 38 la st M) := evC ((pm174 X 37).trans rfl) la st M
theorem e174_38 (X : aX) (la : aLs) (st : List aV) (M : aM) : go X 174 38 la st M = kC X 174 (i_ldi 1 39 la st M) := evC ((pm174 X 38).trans rfl) la st M
theorem e174_39 (X : aX) (la : aLs) (st : List aV) (M : aM) : go X 174 39 la st M = kC X 174 (i_ldi 2 40 la st M) := evC ((pm174 X 39).trans rfl) la st M
theorem e174_40 (X : aX) (la : aLs) (st : List aV) (M : aM) : go X 174 40 la st M = kC X 174 (i_ci (nI 7) 42 la st M) := evC ((pm174 X 40).trans rfl) la st M
theorem e174_42 (X : aX) (la : aLs) (st : List aV) (M : aM) : go X 174 42 la st M = kK X 174 121 2 45 0 la st M := evK ((pm174 X 42).trans rfl) la st M
theorem e174_45 (X : aX) (la : aLs) (st : List aV) (M : aM) : go X 174 45 la st M = kK X 174 173 3 48 7 la st M := evK ((pm174 X 45).trans rfl) la st M
theorem e174_48 (X : aX) (la : aLs) (st : List aV) (M : aM) : go X 174 48 la st M = kC X 174 (i_ife 94 51 la st M) := evC ((pm174 X 48).trans rfl) la st M
theorem e174_51 (X : aX) (la : aLs) (st : List aV) (M : aM) : go X 174 51 la st M = kC X 174 (i_inc 7 (nI 1) 54 la st M) := evC ((pm174 X 51).trans rfl) la st M
theorem e174_54 (X : aX) (la : aLs) (st : List aV) (M : aM) : go X 174 54 la st M = kC X 174 (i_lda 0 55 la st M) := evC ((pm174 X 54).trans rfl) la st M
theorem e174_55 (X : aX) (la : aLs) (st : List aV) (M : aM) : go X 174 55 la st M = kC X 174 (i_lda 0 56 la st M) := evC ((pm174 X 55).trans rfl) la st M
theorem e174_56 (X : aX) (la : aLs) (st : List aV) (M : aM) : go X 174 56 la st M = kC X 174 (i_get 6 6 59 la st M) := evC ((pm174 X 56).trans rfl) la st M
theorem e174_59 (X : aX) (la : aLs) (st : List aV) (M : aM) : go X 174 59 la st M = kC X 174 (i_ifl 62 67 la st M) := evC ((pm174 X 59).trans rfl) la st M
theorem e174_62 (X : aX) (la : aLs) (st : List aV) (M : aM) : go X 174 62 la st M = kC X 174 (i_ldi 8 64 la st M) := evC ((pm174 X 62).trans rfl) la st M
theorem e174_64 (X : aX) (la : aLs) (st : List aV) (M : aM) : go X 174 64 la st M = kC X 174 (i_go 71 la st M) := evC ((pm174 X 64).trans rfl) la st M
theorem e174_67 (X : aX) (la : aLs) (st : List aV) (M : aM) : go X 174 67 la st M = kC X 174 (i_lda 0 68 la st M) := evC ((pm174 X 67).trans rfl) la st M
theorem e174_68 (X : aX) (la : aLs) (st : List aV) (M : aM) : go X 174 68 la st M = kC X 174 (i_get 6 6 71 la st M) := evC ((pm174 X 68).trans rfl) la st M
theorem e174_71 (X : aX) (la : aLs) (st : List aV) (M : aM) : go X 174 71 la st M = kC X 174 (i_put 6 6 0 74 la st M) := evC ((pm174 X 71).trans rfl) la st M
theorem e174_74 (X : aX) (la : aLs) (st : List aV) (M : aM) : go X 174 74 la st M = kC X 174 (i_ldi 6 76 la st M) := evC ((pm174 X 74).trans rfl) la st M
theorem e174_76 (X : aX) (la : aLs) (st : List aV) (M : aM) : go X 174 76 la st M = kC X 174 (i_ldi 8 78 la st M) := evC ((pm174 X 76).trans rfl) la st M
theorem e174_78 (X : aX) (la : aLs) (st : List aV) (M : aM) : go X 174 78 la st M = kC X 174 (i_ci (nI 32) 80 la st M) := evC ((pm174 X 78).trans rfl) la st M
theorem e174_80 (X : aX) (la : aLs) (st : List aV) (M : aM) : go X 174 80 la st M = kC X 174 (i_cml 83 90 la st M) := evC ((pm174 X 80).trans rfl) la st M
theorem e174_83 (X : aX) (la : aLs) (st : List aV) (M : aM) : go X 174 83 la st M = kC X 174 (i_ci (nI 1) 84 la st M) := evC ((pm174 X 83).trans rfl) la st M
theorem e174_84 (X : aX) (la : aLs) (st : List aV) (M : aM) : go X 174 84 la st M = kC X 174 (i_ldi 8 86 la st M) := evC ((pm174 X 84).trans rfl) la st M
theorem e174_86 (X : aX) (la : aLs) (st : List aV) (M : aM) : go X 174 86 la st M = kC X 174 (i_bin (fun x y => x <<< (y &&& 31)) 87 la st M) := evC ((pm174 X 86).trans rfl) la st M
theorem e174_87 (X : aX) (la : aLs) (st : List aV) (M : aM) : go X 174 87 la st M = kC X 174 (i_go 91 la st M) := evC ((pm174 X 87).trans rfl) la st M
theorem e174_90 (X : aX) (la : aLs) (st : List aV) (M : aM) : go X 174 90 la st M = kC X 174 (i_ci (nI 0) 91 la st M) := evC ((pm174 X 90).trans rfl) la st M
theorem e174_91 (X : aX) (la : aLs) (st : List aV) (M : aM) : go X 174 91 la st M = kC X 174 (i_bin (fun x y => x ||| y) 92 la st M) := evC ((pm174 X 91).trans rfl) la st M
theorem e174_92 (X : aX) (la : aLs) (st : List aV) (M : aM) : go X 174 92 la st M = kC X 174 (i_sti 6 94 la st M) := evC ((pm174 X 92).trans rfl) la st M
theorem e174_94 (X : aX) (la : aLs) (st : List aV) (M : aM) : go X 174 94 la st M = kC X 174 (i_inc 8 (nI 1) 97 la st M) := evC ((pm174 X 94).trans rfl) la st M
theorem e174_97 (X : aX) (la : aLs) (st : List aV) (M : aM) : go X 174 97 la st M = kC X 174 (i_go 22 la st M) := evC ((pm174 X 97).trans rfl) la st M
theorem e174_100 (X : aX) (la : aLs) (st : List aV) (M : aM) : go X 174 100 la st M = kC X 174 (i_lda 0 101 la st M) := evC ((pm174 X 100).trans rfl) la st M
theorem e174_101 (X : aX) (la : aLs) (st : List aV) (M : aM) : go X 174 101 la st M = kC X 174 (i_get 6 0 104 la st M) := evC ((pm174 X 101).trans rfl) la st M
theorem e174_104 (X : aX) (la : aLs) (st : List aV) (M : aM) : go X 174 104 la st M = kC X 174 (i_ldi 3 105 la st M) := evC ((pm174 X 104).trans rfl) la st M
theorem e174_105 (X : aX) (la : aLs) (st : List aV) (M : aM) : go X 174 105 la st M = kC X 174 (i_ldi 5 107 la st M) := evC ((pm174 X 105).trans rfl) la st M
theorem e174_107 (X : aX) (la : aLs) (st : List aV) (M : aM) : go X 174 107 la st M = kC X 174 (i_ias 108 la st M) := evC ((pm174 X 107).trans rfl) la st M
theorem e174_108 (X : aX) (la : aLs) (st : List aV) (M : aM) : go X 174 108 la st M = kC X 174 (i_ldi 4 110 la st M) := evC ((pm174 X 108).trans rfl) la st M
theorem e174_110 (X : aX) (la : aLs) (st : List aV) (M : aM) : go X 174 110 la st M = kC X 174 (i_ci (nI 60) 112 la st M) := evC ((pm174 X 110).trans rfl) la st M
theorem e174_112 (X : aX) (la : aLs) (st : List aV) (M : aM) : go X 174 112 la st M = kC X 174 (i_cme 115 120 la st M) := evC ((pm174 X 112).trans rfl) la st M
theorem e174_115 (X : aX) (la : aLs) (st : List aV) (M : aM) : go X 174 115 la st M = kC X 174 (i_ldi 7 117 la st M) := evC ((pm174 X 115).trans rfl) la st M
theorem e174_117 (X : aX) (la : aLs) (st : List aV) (M : aM) : go X 174 117 la st M = kC X 174 (i_go 122 la st M) := evC ((pm174 X 117).trans rfl) la st M
theorem e174_120 (X : aX) (la : aLs) (st : List aV) (M : aM) : go X 174 120 la st M = kC X 174 (i_ldi 6 122 la st M) := evC ((pm174 X 120).trans rfl) la st M
theorem e174_122 (X : aX) (la : aLs) (st : List aV) (M : aM) : go X 174 122 la st M = i_irt st M := evR ((pm174 X 122).trans rfl) la st M
theorem c174 (X : aX) (as : List aV) (M : aM) : cl X 174 as M = if cs as ≤ 9 then go X 174 0 (ent 9 as) [] M else none := rfl
theorem pm175 (X : aX) (pc : Nat) : pg X 175 pc = lk pc (tb175 X) := rfl
theorem e175_0 (X : aX) (la : aLs) (st : List aV) (M : aM) : go X 175 0 la st M = kC X 175 (i_lda 0 1 la st M) := evC ((pm175 X 0).trans rfl) la st M
theorem e175_1 (X : aX) (la : aLs) (st : List aV) (M : aM) : go X 175 1 la st M = kC X 175 (i_ldi 1 2 la st M) := evC ((pm175 X 1).trans rfl) la st M
theorem e175_2 (X : aX) (la : aLs) (st : List aV) (M : aM) : go X 175 2 la st M = kC X 175 (i_lda 0 3 la st M) := evC ((pm175 X 2).trans rfl) la st M
theorem e175_3 (X : aX) (la : aLs) (st : List aV) (M : aM) : go X 175 3 la st M = kC X 175 (i_ldi 2 4 la st M) := evC ((pm175 X 3).trans rfl) la st M
theorem e175_4 (X : aX) (la : aLs) (st : List aV) (M : aM) : go X 175 4 la st M = kK X 175 123 2 7 7 la st M := evK ((pm175 X 4).trans rfl) la st M
theorem e175_7 (X : aX) (la : aLs) (st : List aV) (M : aM) : go X 175 7 la st M = kK X 175 172 3 10 7 la st M := evK ((pm175 X 7).trans rfl) la st M
theorem e175_10 (X : aX) (la : aLs) (st : List aV) (M : aM) : go X 175 10 la st M = kC X 175 (i_sti 3 11 la st M) := evC ((pm175 X 10).trans rfl) la st M
theorem e175_11 (X : aX) (la : aLs) (st : List aV) (M : aM) : go X 175 11 la st M = kC X 175 (i_ldi 3 12 la st M) := evC ((pm175 X 11).trans rfl) la st M
theorem e175_12 (X : aX) (la : aLs) (st : List aV) (M : aM) : go X 175 12 la st M = kC X 175 (i_ife 23 15 la st M) := evC ((pm175 X 12).trans rfl) la st M
theorem e175_15 (X : aX) (la : aLs) (st : List aV) (M : aM) : go X 175 15 la st M = kC X 175 (i_lda 0 16 la st M) := evC ((pm175 X 15).trans rfl) la st M
theorem e175_16 (X : aX) (la : aLs) (st : List aV) (M : aM) : go X 175 16 la st M = kC X 175 (i_ldi 3 17 la st M) := evC ((pm175 X 16).trans rfl) la st M
theorem e175_17 (X : aX) (la : aLs) (st : List aV) (M : aM) : go X 175 17 la st M = kK X 175 113 2 20 7 la st M := evK ((pm175 X 17).trans rfl) la st M
theorem e175_20 (X : aX) (la : aLs) (st : List aV) (M : aM) : go X 175 20 la st M = kC X 175 (i_go 36 la st M) := evC ((pm175 X 20).trans rfl) la st M
theorem e175_23 (X : aX) (la : aLs) (st : List aV) (M : aM) : go X 175 23 la st M = kC X 175 (i_lda 0 24 la st M) := evC ((pm175 X 23).trans rfl) la st M
theorem e175_24 (X : aX) (la : aLs) (st : List aV) (M : aM) : go X 175 24 la st M = kC X 175 (i_ldi 1 25 la st M) := evC ((pm175 X 24).trans rfl) la st M
theorem e175_25 (X : aX) (la : aLs) (st : List aV) (M : aM) : go X 175 25 la st M = kC X 175 (i_ldi 2 26 la st M) := evC ((pm175 X 25).trans rfl) la st M
theorem e175_26 (X : aX) (la : aLs) (st : List aV) (M : aM) : go X 175 26 la st M = kC X 175 (i_ldi 2 27 la st M) := evC ((pm175 X 26).trans rfl) la st M
theorem e175_27 (X : aX) (la : aLs) (st : List aV) (M : aM) : go X 175 27 la st M = kC X 175 (i_ci (nI 1) 28 la st M) := evC ((pm175 X 27).trans rfl) la st M
theorem e175_28 (X : aX) (la : aLs) (st : List aV) (M : aM) : go X 175 28 la st M = kK X 175 121 2 31 0 la st M := evK ((pm175 X 28).trans rfl) la st M
theorem e175_31 (X : aX) (la : aLs) (st : List aV) (M : aM) : go X 175 31 la st M = kC X 175 (i_ci (nI 60) 33 la st M) := evC ((pm175 X 31).trans rfl) la st M
theorem e175_33 (X : aX) (la : aLs) (st : List aV) (M : aM) : go X 175 33 la st M = kK X 175 174 5 36 7 la st M := evK ((pm175 X 33).trans rfl) la st M
theorem e175_36 (X : aX) (la : aLs) (st : List aV) (M : aM) : go X 175 36 la st M = i_irt st M := evR ((pm175 X 36).trans rfl) la st M
theorem c175 (X : aX) (as : List aV) (M : aM) : cl X 175 as M = if cs as ≤ 4 then go X 175 0 (ent 4 as) [] M else none := rfl
theorem pm176 (X : aX) (pc : Nat) : pg X 176 pc = lk pc (tb176 X) := rfl
theorem e176_0 (X : aX) (la : aLs) (st : List aV) (M : aM) : go X 176 0 la st M = kC X 176 (i_lda 0 1 la st M) := evC ((pm176 X 0).trans rfl) la st M
theorem e176_1 (X : aX) (la : aLs) (st : List aV) (M : aM) : go X 176 1 la st M = kC X 176 (i_ldi 1 2 la st M) := evC ((pm176 X 1).trans rfl) la st M
theorem e176_2 (X : aX) (la : aLs) (st : List aV) (M : aM) : go X 176 2 la st M = kC X 176 (i_ldi 2 3 la st M) := evC ((pm176 X 2).trans rfl) la st M
theorem e176_3 (X : aX) (la : aLs) (st : List aV) (M : aM) : go X 176 3 la st M = kK X 176 175 3 6 7 la st M := evK ((pm176 X 3).trans rfl) la st M
theorem e176_6 (X : aX) (la : aLs) (st : List aV) (M : aM) : go X 176 6 la st M = kC X 176 (i_sti 3 7 la st M) := evC ((pm176 X 6).trans rfl) la st M
theorem e176_7 (X : aX) (la : aLs) (st : List aV) (M : aM) : go X 176 7 la st M = kC X 176 (i_ldi 3 8 la st M) := evC ((pm176 X 7).trans rfl) la st M
theorem e176_8 (X : aX) (la : aLs) (st : List aV) (M : aM) : go X 176 8 la st M = kC X 176 (i_ifl 11 15 la st M) := evC ((pm176 X 8).trans rfl) la st M
theorem e176_11 (X : aX) (la : aLs) (st : List aV) (M : aM) : go X 176 11 la st M = kC X 176 (i_ldi 3 12 la st M) := evC ((pm176 X 11).trans rfl) la st M
theorem e176_12 (X : aX) (la : aLs) (st : List aV) (M : aM) : go X 176 12 la st M = kC X 176 (i_go 23 la st M) := evC ((pm176 X 12).trans rfl) la st M
theorem e176_15 (X : aX) (la : aLs) (st : List aV) (M : aM) : go X 176 15 la st M = kC X 176 (i_lda 0 16 la st M) := evC ((pm176 X 15).trans rfl) la st M
theorem e176_16 (X : aX) (la : aLs) (st : List aV) (M : aM) : go X 176 16 la st M = kC X 176 (i_lda 0 17 la st M) := evC ((pm176 X 16).trans rfl) la st M
theorem e176_17 (X : aX) (la : aLs) (st : List aV) (M : aM) : go X 176 17 la st M = kC X 176 (i_get 6 6 20 la st M) := evC ((pm176 X 17).trans rfl) la st M
theorem e176_20 (X : aX) (la : aLs) (st : List aV) (M : aM) : go X 176 20 la st M = kK X 176 118 2 23 7 la st M := evK ((pm176 X 20).trans rfl) la st M
theorem e176_23 (X : aX) (la : aLs) (st : List aV) (M : aM) : go X 176 23 la st M = i_irt st M := evR ((pm176 X 23).trans rfl) la st M
theorem c176 (X : aX) (as : List aV) (M : aM) : cl X 176 as M = if cs as ≤ 4 then go X 176 0 (ent 4 as) [] M else none := rfl
theorem pm177 (X : aX) (pc : Nat) : pg X 177 pc = lk pc (tb177 X) := rfl
theorem e177_0 (X : aX) (la : aLs) (st : List aV) (M : aM) : go X 177 0 la st M = kC X 177 (i_lda 0 1 la st M) := evC ((pm177 X 0).trans rfl) la st M
theorem e177_1 (X : aX) (la : aLs) (st : List aV) (M : aM) : go X 177 1 la st M = kC X 177 (i_ldi 1 2 la st M) := evC ((pm177 X 1).trans rfl) la st M
theorem e177_2 (X : aX) (la : aLs) (st : List aV) (M : aM) : go X 177 2 la st M = kC X 177 (i_lda 0 3 la st M) := evC ((pm177 X 2).trans rfl) la st M
theorem e177_3 (X : aX) (la : aLs) (st : List aV) (M : aM) : go X 177 3 la st M = kC X 177 (i_ldi 2 4 la st M) := evC ((pm177 X 3).trans rfl) la st M
theorem e177_4 (X : aX) (la : aLs) (st : List aV) (M : aM) : go X 177 4 la st M = kK X 177 123 2 7 7 la st M := evK ((pm177 X 4).trans rfl) la st M
theorem e177_7 (X : aX) (la : aLs) (st : List aV) (M : aM) : go X 177 7 la st M = kK X 177 172 3 10 7 la st M := evK ((pm177 X 7).trans rfl) la st M
theorem e177_10 (X : aX) (la : aLs) (st : List aV) (M : aM) : go X 177 10 la st M = kC X 177 (i_sti 3 11 la st M) := evC ((pm177 X 10).trans rfl) la st M
theorem e177_11 (X : aX) (la : aLs) (st : List aV) (M : aM) : go X 177 11 la st M = kC X 177 (i_ldi 3 12 la st M) := evC ((pm177 X 11).trans rfl) la st M
theorem e177_12 (X : aX) (la : aLs) (st : List aV) (M : aM) : go X 177 12 la st M = kC X 177 (i_ife 23 15 la st M) := evC ((pm177 X 12).trans rfl) la st M
theorem e177_15 (X : aX) (la : aLs) (st : List aV) (M : aM) : go X 177 15 la st M = kC X 177 (i_lda 0 16 la st M) := evC ((pm177 X 15).trans rfl) la st M
theorem e177_16 (X : aX) (la : aLs) (st : List aV) (M : aM) : go X 177 16 la st M = kC X 177 (i_ldi 3 17 la st M) := evC ((pm177 X 16).trans rfl) la st M
theorem e177_17 (X : aX) (la : aLs) (st : List aV) (M : aM) : go X 177 17 la st M = kK X 177 113 2 20 7 la st M := evK ((pm177 X 17).trans rfl) la st M
theorem e177_20 (X : aX) (la : aLs) (st : List aV) (M : aM) : go X 177 20 la st M = kC X 177 (i_go 36 la st M) := evC ((pm177 X 20).trans rfl) la st M
theorem e177_23 (X : aX) (la : aLs) (st : List aV) (M : aM) : go X 177 23 la st M = kC X 177 (i_lda 0 24 la st M) := evC ((pm177 X 23).trans rfl) la st M
theorem e177_24 (X : aX) (la : aLs) (st : List aV) (M : aM) : go X 177 24 la st M = kC X 177 (i_ldi 1 25 la st M) := evC ((pm177 X 24).trans rfl) la st M
theorem e177_25 (X : aX) (la : aLs) (st : List aV) (M : aM) : go X 177 25 la st M = kC X 177 (i_ldi 2 26 la st M) := evC ((pm177 X 25).trans rfl) la st M
theorem e177_26 (X : aX) (la : aLs) (st : List aV) (M : aM) : go X 177 26 la st M = kC X 177 (i_ldi 2 27 la st M) := evC ((pm177 X 26).trans rfl) la st M
theorem e177_27 (X : aX) (la : aLs) (st : List aV) (M : aM) : go X 177 27 la st M = kC X 177 (i_ci (nI 0) 28 la st M) := evC ((pm177 X 27).trans rfl) la st M
theorem e177_28 (X : aX) (la : aLs) (st : List aV) (M : aM) : go X 177 28 la st M = kK X 177 121 2 31 0 la st M := evK ((pm177 X 28).trans rfl) la st M
theorem e177_31 (X : aX) (la : aLs) (st : List aV) (M : aM) : go X 177 31 la st M = kC X 177 (i_ci (nI 7) 33 la st M) := evC ((pm177 X 31).trans rfl) la st M
theorem e177_33 (X : aX) (la : aLs) (st : List aV) (M : aM) : go X 177 33 la st M = kK X 177 174 5 36 7 la st M := evK ((pm177 X 33).trans rfl) la st M
theorem e177_36 (X : aX) (la : aLs) (st : List aV) (M : aM) : go X 177 36 la st M = i_irt st M := evR ((pm177 X 36).trans rfl) la st M
theorem c177 (X : aX) (as : List aV) (M : aM) : cl X 177 as M = if cs as ≤ 4 then go X 177 0 (ent 4 as) [] M else none := rfl
theorem pm178 (X : aX) (pc : Nat) : pg X 178 pc = lk pc (tb178 X) := rfl
theorem e178_0 (X : aX) (la : aLs) (st : List aV) (M : aM) : go X 178 0 la st M = kC X 178 (i_lda 0 1 la st M) := evC ((pm178 X 0).trans rfl) la st M
theorem e178_1 (X : aX) (la : aLs) (st : List aV) (M : aM) : go X 178 1 la st M = kC X 178 (i_get 6 0 4 la st M) := evC ((pm178 X 1).trans rfl) la st M
theorem e178_4 (X : aX) (la : aLs) (st : List aV) (M : aM) : go X 178 4 la st M = kC X 178 (i_ci (nI 2) 5 la st M) := evC ((pm178 X 4).trans rfl) la st M
theorem e178_5 (X : aX) (la : aLs) (st : List aV) (M : aM) : go X 178 5 la st M = kC X 178 (i_lda 0 6 la st M) := evC ((pm178 X 5).trans rfl) la st M
theorem e178_6 (X : aX) (la : aLs) (st : List aV) (M : aM) : go X 178 6 la st M = kC X 178 (i_get 6 0 9 la st M) := evC ((pm178 X 6).trans rfl) la st M
theorem e178_9 (X : aX) (la : aLs) (st : List aV) (M : aM) : go X 178 9 la st M = kC X 178 (i_ci (nI 2) 10 la st M) := evC ((pm178 X 9).trans rfl) la st M
theorem e178_10 (X : aX) (la : aLs) (st : List aV) (M : aM) : go X 178 10 la st M = kC X 178 (i_ial X 11 la st M) := evC ((pm178 X 10).trans rfl) la st M
theorem e178_11 (X : aX) (la : aLs) (st : List aV) (M : aM) : go X 178 11 la st M = kC X 178 (i_ci (nI 1103515245) 13 la st M) := evC ((pm178 X 11).trans rfl) la st M
theorem e178_13 (X : aX) (la : aLs) (st : List aV) (M : aM) : go X 178 13 la st M = kC X 178 (i_bin (fun x y => x * y) 14 la st M) := evC ((pm178 X 13).trans rfl) la st M
theorem e178_14 (X : aX) (la : aLs) (st : List aV) (M : aM) : go X 178 14 la st M = kC X 178 (i_ci (nI 12345) 17 la st M) := evC ((pm178 X 14).trans rfl) la st M
theorem e178_17 (X : aX) (la : aLs) (st : List aV) (M : aM) : go X 178 17 la st M = kC X 178 (i_bin (fun x y => x + y) 18 la st M) := evC ((pm178 X 17).trans rfl) la st M
theorem e178_18 (X : aX) (la : aLs) (st : List aV) (M : aM) : go X 178 18 la st M = kC X 178 (i_ias 19 la st M) := evC ((pm178 X 18).trans rfl) la st M
theorem e178_19 (X : aX) (la : aLs) (st : List aV) (M : aM) : go X 178 19 la st M = kC X 178 (i_lda 0 20 la st M) := evC ((pm178 X 19).trans rfl) la st M
theorem e178_20 (X : aX) (la : aLs) (st : List aV) (M : aM) : go X 178 20 la st M = kC X 178 (i_get 6 0 23 la st M) := evC ((pm178 X 20).trans rfl) la st M
theorem e178_23 (X : aX) (la : aLs) (st : List aV) (M : aM) : go X 178 23 la st M = kC X 178 (i_ci (nI 2) 24 la st M) := evC ((pm178 X 23).trans rfl) la st M
theorem e178_24 (X : aX) (la : aLs) (st : List aV) (M : aM) : go X 178 24 la st M = kC X 178 (i_ial X 25 la st M) := evC ((pm178 X 24).trans rfl) la st M
theorem e178_25 (X : aX) (la : aLs) (st : List aV) (M : aM) : go X 178 25 la st M = kC X 178 (i_ci (nI 8) 27 la st M) := evC ((pm178 X 25).trans rfl) la st M
theorem e178_27 (X : aX) (la : aLs) (st : List aV) (M : aM) : go X 178 27 la st M = kC X 178 (i_bin (fun x y => (x.toUInt32 >>> (y.toUInt32 &&& Int32.toUInt32 31)).toInt32) 28 la st M) := evC ((pm178 X 27).trans rfl) la st M
theorem e178_28 (X : aX) (la : aLs) (st : List aV) (M : aM) : go X 178 28 la st M = i_irt st M := evR ((pm178 X 28).trans rfl) la st M
theorem c178 (X : aX) (as : List aV) (M : aM) : cl X 178 as M = if cs as ≤ 1 then go X 178 0 (ent 1 as) [] M else none := rfl
theorem pm179 (X : aX) (pc : Nat) : pg X 179 pc = lk pc (tb179 X) := rfl
theorem e179_0 (X : aX) (la : aLs) (st : List aV) (M : aM) : go X 179 0 la st M = kC X 179 (i_ldi 1 1 la st M) := evC ((pm179 X 0).trans rfl) la st M
theorem e179_1 (X : aX) (la : aLs) (st : List aV) (M : aM) : go X 179 1 la st M = kC X 179 (i_ci (nI 1) 2 la st M) := evC ((pm179 X 1).trans rfl) la st M
theorem e179_2 (X : aX) (la : aLs) (st : List aV) (M : aM) : go X 179 2 la st M = kC X 179 (i_ci (nI 20) 4 la st M) := evC ((pm179 X 2).trans rfl) la st M
theorem e179_4 (X : aX) (la : aLs) (st : List aV) (M : aM) : go X 179 4 la st M = kK X 179 114 3 7 0 la st M := evK ((pm179 X 4).trans rfl) la st M
theorem e179_7 (X : aX) (la : aLs) (st : List aV) (M : aM) : go X 179 7 la st M = kC X 179 (i_ife 10 17 la st M) := evC ((pm179 X 7).trans rfl) la st M
theorem e179_10 (X : aX) (la : aLs) (st : List aV) (M : aM) : go X 179 10 la st M = kC X 179 (i_lda 0 11 la st M) := evC ((pm179 X 10).trans rfl) la st M
theorem e179_11 (X : aX) (la : aLs) (st : List aV) (M : aM) : go X 179 11 la st M = kC X 179 (i_ci (-1000001) 13 la st M) := evC ((pm179 X 11).trans rfl) la st M
theorem e179_13 (X : aX) (la : aLs) (st : List aV) (M : aM) : go X 179 13 la st M = kK X 179 113 2 16 7 la st M := evK ((pm179 X 13).trans rfl) la st M
theorem e179_16 (X : aX) (la : aLs) (st : List aV) (M : aM) : go X 179 16 la st M = i_irt st M := evR ((pm179 X 16).trans rfl) la st M
theorem e179_17 (X : aX) (la : aLs) (st : List aV) (M : aM) : go X 179 17 la st M = kC X 179 (i_lda 0 18 la st M) := evC ((pm179 X 17).trans rfl) la st M
theorem e179_18 (X : aX) (la : aLs) (st : List aV) (M : aM) : go X 179 18 la st M = kC X 179 (i_get 6 0 21 la st M) := evC ((pm179 X 18).trans rfl) la st M
theorem e179_21 (X : aX) (la : aLs) (st : List aV) (M : aM) : go X 179 21 la st M = kC X 179 (i_ci (nI 0) 22 la st M) := evC ((pm179 X 21).trans rfl) la st M
theorem e179_22 (X : aX) (la : aLs) (st : List aV) (M : aM) : go X 179 22 la st M = kC X 179 (i_ial X 23 la st M) := evC ((pm179 X 22).trans rfl) la st M
theorem e179_23 (X : aX) (la : aLs) (st : List aV) (M : aM) : go X 179 23 la st M = kC X 179 (i_ldi 1 24 la st M) := evC ((pm179 X 23).trans rfl) la st M
theorem e179_24 (X : aX) (la : aLs) (st : List aV) (M : aM) : go X 179 24 la st M = kC X 179 (i_bin (fun x y => x + y) 25 la st M) := evC ((pm179 X 24).trans rfl) la st M
theorem e179_25 (X : aX) (la : aLs) (st : List aV) (M : aM) : go X 179 25 la st M = kC X 179 (i_ci (nI 99999) 27 la st M) := evC ((pm179 X 25).trans rfl) la st M
theorem e179_27 (X : aX) (la : aLs) (st : List aV) (M : aM) : go X 179 27 la st M = kC X 179 (i_cmg 30 37 la st M) := evC ((pm179 X 27).trans rfl) la st M
theorem e179_30 (X : aX) (la : aLs) (st : List aV) (M : aM) : go X 179 30 la st M = kC X 179 (i_lda 0 31 la st M) := evC ((pm179 X 30).trans rfl) la st M
theorem e179_31 (X : aX) (la : aLs) (st : List aV) (M : aM) : go X 179 31 la st M = kC X 179 (i_ci (-1000005) 33 la st M) := evC ((pm179 X 31).trans rfl) la st M
theorem e179_33 (X : aX) (la : aLs) (st : List aV) (M : aM) : go X 179 33 la st M = kK X 179 113 2 36 7 la st M := evK ((pm179 X 33).trans rfl) la st M
theorem e179_36 (X : aX) (la : aLs) (st : List aV) (M : aM) : go X 179 36 la st M = i_irt st M := evR ((pm179 X 36).trans rfl) la st M
theorem e179_37 (X : aX) (la : aLs) (st : List aV) (M : aM) : go X 179 37 la st M = kC X 179 (i_ci (nI 0) 38 la st M) := evC ((pm179 X 37).trans rfl) la st M
theorem e179_38 (X : aX) (la : aLs) (st : List aV) (M : aM) : go X 179 38 la st M = kC X 179 (i_sti 2 39 la st M) := evC ((pm179 X 38).trans rfl) la st M
theorem e179_39 (X : aX) (la : aLs) (st : List aV) (M : aM) : go X 179 39 la st M = kC X 179 (i_ldi 2 40 la st M) := evC ((pm179 X 39).trans rfl) la st M
theorem e179_40 (X : aX) (la : aLs) (st : List aV) (M : aM) : go X 179 40 la st M = kC X 179 (i_ldi 1 41 la st M) := evC ((pm179 X 40).trans rfl) la st M
theorem e179_41 (X : aX) (la : aLs) (st : List aV) (M : aM) : go X 179 41 la st M = kC X 179 (i_cml 44 107 la st M) := evC ((pm179 X 41).trans rfl) la st M
theorem e179_44 (X : aX) (la : aLs) (st : List aV) (M : aM) : go X 179 44 la st M = kC X 179 (i_lda 0 45 la st M) := evC ((pm179 X 44).trans rfl) la st M
theorem e179_45 (X : aX) (la : aLs) (st : List aV) (M : aM) : go X 179 45 la st M = kK X 179 178 1 48 7 la st M := evK ((pm179 X 45).trans rfl) la st M
theorem e179_48 (X : aX) (la : aLs) (st : List aV) (M : aM) : go X 179 48 la st M = kC X 179 (i_ci (nI 8) 50 la st M) := evC ((pm179 X 48).trans rfl) la st M
theorem e179_50 (X : aX) (la : aLs) (st : List aV) (M : aM) : go X 179 50 la st M = kC X 179 (i_div (fun x y => x - x / y * y) 51 la st M) := evC ((pm179 X 50).trans rfl) la st M
theorem e179_51 (X : aX) (la : aLs) (st : List aV) (M : aM) : go X 179 51 la st M = kC X 179 (i_sti 3 52 la st M) := evC ((pm179 X 51).trans rfl) la st M
theorem e179_52 (X : aX) (la : aLs) (st : List aV) (M : aM) : go X 179 52 la st M = kC X 179 (i_ci (nI 1) 53 la st M) := evC ((pm179 X 52).trans rfl) la st M
theorem e179_53 (X : aX) (la : aLs) (st : List aV) (M : aM) : go X 179 53 la st M = kC X 179 (i_lda 0 54 la st M) := evC ((pm179 X 53).trans rfl) la st M
theorem e179_54 (X : aX) (la : aLs) (st : List aV) (M : aM) : go X 179 54 la st M = kK X 179 178 1 57 7 la st M := evK ((pm179 X 54).trans rfl) la st M
theorem e179_57 (X : aX) (la : aLs) (st : List aV) (M : aM) : go X 179 57 la st M = kC X 179 (i_ci (nI 9) 59 la st M) := evC ((pm179 X 57).trans rfl) la st M
theorem e179_59 (X : aX) (la : aLs) (st : List aV) (M : aM) : go X 179 59 la st M = kC X 179 (i_div (fun x y => x - x / y * y) 60 la st M) := evC ((pm179 X 59).trans rfl) la st M
theorem e179_60 (X : aX) (la : aLs) (st : List aV) (M : aM) : go X 179 60 la st M = kC X 179 (i_bin (fun x y => x + y) 61 la st M) := evC ((pm179 X 60).trans rfl) la st M
theorem e179_61 (X : aX) (la : aLs) (st : List aV) (M : aM) : go X 179 61 la st M = kC X 179 (i_sti 4 63 la st M) := evC ((pm179 X 61).trans rfl) la st M
theorem e179_63 (X : aX) (la : aLs) (st : List aV) (M : aM) : go X 179 63 la st M = kC X 179 (i_lda 0 64 la st M) := evC ((pm179 X 63).trans rfl) la st M
theorem e179_64 (X : aX) (la : aLs) (st : List aV) (M : aM) : go X 179 64 la st M = kC X 179 (i_ldi 3 65 la st M) := evC ((pm179 X 64).trans rfl) la st M
theorem e179_65 (X : aX) (la : aLs) (st : List aV) (M : aM) : go X 179 65 la st M = kK X 179 123 2 68 7 la st M := evK ((pm179 X 65).trans rfl) la st M
theorem e179_68 (X : aX) (la : aLs) (st : List aV) (M : aM) : go X 179 68 la st M = kC X 179 (i_ife 97 71 la st M) := evC ((pm179 X 68).trans rfl) la st M
theorem e179_71 (X : aX) (la : aLs) (st : List aV) (M : aM) : go X 179 71 la st M = kC X 179 (i_lda 0 72 la st M) := evC ((pm179 X 71).trans rfl) la st M
theorem e179_72 (X : aX) (la : aLs) (st : List aV) (M : aM) : go X 179 72 la st M = kC X 179 (i_ldi 3 73 la st M) := evC ((pm179 X 72).trans rfl) la st M
theorem e179_73 (X : aX) (la : aLs) (st : List aV) (M : aM) : go X 179 73 la st M = kK X 179 127 2 76 7 la st M := evK ((pm179 X 73).trans rfl) la st M
theorem e179_76 (X : aX) (la : aLs) (st : List aV) (M : aM) : go X 179 76 la st M = kC X 179 (i_ife 79 97 la st M) := evC ((pm179 X 76).trans rfl) la st M
theorem e179_79 (X : aX) (la : aLs) (st : List aV) (M : aM) : go X 179 79 la st M = kC X 179 (i_lda 0 80 la st M) := evC ((pm179 X 79).trans rfl) la st M
theorem e179_80 (X : aX) (la : aLs) (st : List aV) (M : aM) : go X 179 80 la st M = kC X 179 (i_get 6 0 83 la st M) := evC ((pm179 X 80).trans rfl) la st M
theorem e179_83 (X : aX) (la : aLs) (st : List aV) (M : aM) : go X 179 83 la st M = kC X 179 (i_ldi 3 84 la st M) := evC ((pm179 X 83).trans rfl) la st M
theorem e179_84 (X : aX) (la : aLs) (st : List aV) (M : aM) : go X 179 84 la st M = kC X 179 (i_ci (nI 5) 85 la st M) := evC ((pm179 X 84).trans rfl) la st M
theorem e179_85 (X : aX) (la : aLs) (st : List aV) (M : aM) : go X 179 85 la st M = kK X 179 121 2 88 0 la st M := evK ((pm179 X 85).trans rfl) la st M
theorem e179_88 (X : aX) (la : aLs) (st : List aV) (M : aM) : go X 179 88 la st M = kC X 179 (i_ldi 4 90 la st M) := evC ((pm179 X 88).trans rfl) la st M
theorem e179_90 (X : aX) (la : aLs) (st : List aV) (M : aM) : go X 179 90 la st M = kC X 179 (i_ias 91 la st M) := evC ((pm179 X 90).trans rfl) la st M
theorem e179_91 (X : aX) (la : aLs) (st : List aV) (M : aM) : go X 179 91 la st M = kC X 179 (i_lda 0 92 la st M) := evC ((pm179 X 91).trans rfl) la st M
theorem e179_92 (X : aX) (la : aLs) (st : List aV) (M : aM) : go X 179 92 la st M = kC X 179 (i_ldi 3 93 la st M) := evC ((pm179 X 92).trans rfl) la st M
theorem e179_93 (X : aX) (la : aLs) (st : List aV) (M : aM) : go X 179 93 la st M = kK X 179 139 2 96 7 la st M := evK ((pm179 X 93).trans rfl) la st M
theorem e179_96 (X : aX) (la : aLs) (st : List aV) (M : aM) : go X 179 96 la st M = kC X 179 (i_pop 97 la st M) := evC ((pm179 X 96).trans rfl) la st M
theorem e179_97 (X : aX) (la : aLs) (st : List aV) (M : aM) : go X 179 97 la st M = kC X 179 (i_lda 0 98 la st M) := evC ((pm179 X 97).trans rfl) la st M
theorem e179_98 (X : aX) (la : aLs) (st : List aV) (M : aM) : go X 179 98 la st M = kK X 179 146 1 101 7 la st M := evK ((pm179 X 98).trans rfl) la st M
theorem e179_101 (X : aX) (la : aLs) (st : List aV) (M : aM) : go X 179 101 la st M = kC X 179 (i_inc 2 (nI 1) 104 la st M) := evC ((pm179 X 101).trans rfl) la st M
theorem e179_104 (X : aX) (la : aLs) (st : List aV) (M : aM) : go X 179 104 la st M = kC X 179 (i_go 39 la st M) := evC ((pm179 X 104).trans rfl) la st M
theorem e179_107 (X : aX) (la : aLs) (st : List aV) (M : aM) : go X 179 107 la st M = kC X 179 (i_lda 0 108 la st M) := evC ((pm179 X 107).trans rfl) la st M
theorem e179_108 (X : aX) (la : aLs) (st : List aV) (M : aM) : go X 179 108 la st M = kK X 179 148 1 111 7 la st M := evK ((pm179 X 108).trans rfl) la st M
theorem e179_111 (X : aX) (la : aLs) (st : List aV) (M : aM) : go X 179 111 la st M = i_irt st M := evR ((pm179 X 111).trans rfl) la st M
theorem c179 (X : aX) (as : List aV) (M : aM) : cl X 179 as M = if cs as ≤ 5 then go X 179 0 (ent 5 as) [] M else none := rfl
theorem pm180 (X : aX) (pc : Nat) : pg X 180 pc = lk pc (tb180 X) := rfl
theorem e180_0 (X : aX) (la : aLs) (st : List aV) (M : aM) : go X 180 0 la st M = kC X 180 (i_ci (nI 0) 1 la st M) := evC ((pm180 X 0).trans rfl) la st M
theorem e180_1 (X : aX) (la : aLs) (st : List aV) (M : aM) : go X 180 1 la st M = kC X 180 (i_sti 1 2 la st M) := evC ((pm180 X 1).trans rfl) la st M
theorem e180_2 (X : aX) (la : aLs) (st : List aV) (M : aM) : go X 180 2 la st M = kC X 180 (i_ci (nI 0) 3 la st M) := evC ((pm180 X 2).trans rfl) la st M
theorem e180_3 (X : aX) (la : aLs) (st : List aV) (M : aM) : go X 180 3 la st M = kC X 180 (i_sti 2 4 la st M) := evC ((pm180 X 3).trans rfl) la st M
theorem e180_4 (X : aX) (la : aLs) (st : List aV) (M : aM) : go X 180 4 la st M = kC X 180 (i_ldi 2 5 la st M) := evC ((pm180 X 4).trans rfl) la st M
theorem e180_5 (X : aX) (la : aLs) (st : List aV) (M : aM) : go X 180 5 la st M = kC X 180 (i_ci (nI 60) 7 la st M) := evC ((pm180 X 5).trans rfl) la st M
theorem e180_7 (X : aX) (la : aLs) (st : List aV) (M : aM) : go X 180 7 la st M = kC X 180 (i_cml 10 90 la st M) := evC ((pm180 X 7).trans rfl) la st M
theorem e180_10 (X : aX) (la : aLs) (st : List aV) (M : aM) : go X 180 10 la st M = kC X 180 (i_ci (nI 0) 11 la st M) := evC ((pm180 X 10).trans rfl) la st M
theorem e180_11 (X : aX) (la : aLs) (st : List aV) (M : aM) : go X 180 11 la st M = kC X 180 (i_sti 3 12 la st M) := evC ((pm180 X 11).trans rfl) la st M
theorem e180_12 (X : aX) (la : aLs) (st : List aV) (M : aM) : go X 180 12 la st M = kC X 180 (i_ci (nI 0) 13 la st M) := evC ((pm180 X 12).trans rfl) la st M
theorem e180_13 (X : aX) (la : aLs) (st : List aV) (M : aM) : go X 180 13 la st M = kC X 180 (i_sti 4 15 la st M) := evC ((pm180 X 13).trans rfl) la st M
theorem e180_15 (X : aX) (la : aLs) (st : List aV) (M : aM) : go X 180 15 la st M = kC X 180 (i_ldi 4 17 la st M) := evC ((pm180 X 15).trans rfl) la st M
theorem e180_17 (X : aX) (la : aLs) (st : List aV) (M : aM) : go X 180 17 la st M = kC X 180 (i_lda 0 18 la st M) := evC ((pm180 X 17).trans rfl) la st M
theorem e180_18 (X : aX) (la : aLs) (st : List aV) (M : aM) : go X 180 18 la st M = kC X 180 (i_get 6 0 21 la st M) := evC ((pm180 X 18).trans rfl) la st M
theorem e180_21 (X : aX) (la : aLs) (st : List aV) (M : aM) : go X 180 21 la st M = kC X 180 (i_ci (nI 1) 22 la st M) := evC ((pm180 X 21).trans rfl) la st M
theorem e180_22 (X : aX) (la : aLs) (st : List aV) (M : aM) : go X 180 22 la st M = kC X 180 (i_ial X 23 la st M) := evC ((pm180 X 22).trans rfl) la st M
theorem e180_23 (X : aX) (la : aLs) (st : List aV) (M : aM) : go X 180 23 la st M = kC X 180 (i_cml 26 72 la st M) := evC ((pm180 X 23).trans rfl) la st M
theorem e180_26 (X : aX) (la : aLs) (st : List aV) (M : aM) : go X 180 26 la st M = kC X 180 (i_ldi 3 27 la st M) := evC ((pm180 X 26).trans rfl) la st M
theorem e180_27 (X : aX) (la : aLs) (st : List aV) (M : aM) : go X 180 27 la st M = kC X 180 (i_ife 30 60 la st M) := evC ((pm180 X 27).trans rfl) la st M
theorem e180_30 (X : aX) (la : aLs) (st : List aV) (M : aM) : go X 180 30 la st M = kC X 180 (i_lda 0 31 la st M) := evC ((pm180 X 30).trans rfl) la st M
theorem e180_31 (X : aX) (la : aLs) (st : List aV) (M : aM) : go X 180 31 la st M = kC X 180 (i_ldi 4 33 la st M) := evC ((pm180 X 31).trans rfl) la st M
theorem e180_33 (X : aX) (la : aLs) (st : List aV) (M : aM) : go X 180 33 la st M = kK X 180 127 2 36 7 la st M := evK ((pm180 X 33).trans rfl) la st M
theorem e180_36 (X : aX) (la : aLs) (st : List aV) (M : aM) : go X 180 36 la st M = kC X 180 (i_ife 39 64 la st M) := evC ((pm180 X 36).trans rfl) la st M
theorem e180_39 (X : aX) (la : aLs) (st : List aV) (M : aM) : go X 180 39 la st M = kC X 180 (i_lda 0 40 la st M) := evC ((pm180 X 39).trans rfl) la st M
theorem e180_40 (X : aX) (la : aLs) (st : List aV) (M : aM) : go X 180 40 la st M = kC X 180 (i_ldi 4 42 la st M) := evC ((pm180 X 40).trans rfl) la st M
theorem e180_42 (X : aX) (la : aLs) (st : List aV) (M : aM) : go X 180 42 la st M = kC X 180 (i_ci (nI 2) 43 la st M) := evC ((pm180 X 42).trans rfl) la st M
theorem e180_43 (X : aX) (la : aLs) (st : List aV) (M : aM) : go X 180 43 la st M = kK X 180 122 3 46 7 la st M := evK ((pm180 X 43).trans rfl) la st M
theorem e180_46 (X : aX) (la : aLs) (st : List aV) (M : aM) : go X 180 46 la st M = kC X 180 (i_ifl 49 64 la st M) := evC ((pm180 X 46).trans rfl) la st M
theorem e180_49 (X : aX) (la : aLs) (st : List aV) (M : aM) : go X 180 49 la st M = kC X 180 (i_lda 0 50 la st M) := evC ((pm180 X 49).trans rfl) la st M
theorem e180_50 (X : aX) (la : aLs) (st : List aV) (M : aM) : go X 180 50 la st M = kC X 180 (i_ldi 4 52 la st M) := evC ((pm180 X 50).trans rfl) la st M
theorem e180_52 (X : aX) (la : aLs) (st : List aV) (M : aM) : go X 180 52 la st M = kC X 180 (i_ci (nI 1) 53 la st M) := evC ((pm180 X 52).trans rfl) la st M
theorem e180_53 (X : aX) (la : aLs) (st : List aV) (M : aM) : go X 180 53 la st M = kK X 180 122 3 56 7 la st M := evK ((pm180 X 53).trans rfl) la st M
theorem e180_56 (X : aX) (la : aLs) (st : List aV) (M : aM) : go X 180 56 la st M = kC X 180 (i_ldi 2 57 la st M) := evC ((pm180 X 56).trans rfl) la st M
theorem e180_57 (X : aX) (la : aLs) (st : List aV) (M : aM) : go X 180 57 la st M = kC X 180 (i_cme 60 64 la st M) := evC ((pm180 X 57).trans rfl) la st M
theorem e180_60 (X : aX) (la : aLs) (st : List aV) (M : aM) : go X 180 60 la st M = kC X 180 (i_ci (nI 1) 61 la st M) := evC ((pm180 X 60).trans rfl) la st M
theorem e180_61 (X : aX) (la : aLs) (st : List aV) (M : aM) : go X 180 61 la st M = kC X 180 (i_go 65 la st M) := evC ((pm180 X 61).trans rfl) la st M
theorem e180_64 (X : aX) (la : aLs) (st : List aV) (M : aM) : go X 180 64 la st M = kC X 180 (i_ci (nI 0) 65 la st M) := evC ((pm180 X 64).trans rfl) la st M
theorem e180_65 (X : aX) (la : aLs) (st : List aV) (M : aM) : go X 180 65 la st M = kC X 180 (i_sti 3 66 la st M) := evC ((pm180 X 65).trans rfl) la st M
theorem e180_66 (X : aX) (la : aLs) (st : List aV) (M : aM) : go X 180 66 la st M = kC X 180 (i_inc 4 (nI 1) 69 la st M) := evC ((pm180 X 66).trans rfl) la st M
theorem e180_69 (X : aX) (la : aLs) (st : List aV) (M : aM) : go X 180 69 la st M = kC X 180 (i_go 15 la st M) := evC ((pm180 X 69).trans rfl) la st M
theorem e180_72 (X : aX) (la : aLs) (st : List aV) (M : aM) : go X 180 72 la st M = kC X 180 (i_ldi 1 73 la st M) := evC ((pm180 X 72).trans rfl) la st M
theorem e180_73 (X : aX) (la : aLs) (st : List aV) (M : aM) : go X 180 73 la st M = kC X 180 (i_ldi 3 74 la st M) := evC ((pm180 X 73).trans rfl) la st M
theorem e180_74 (X : aX) (la : aLs) (st : List aV) (M : aM) : go X 180 74 la st M = kC X 180 (i_ife 81 77 la st M) := evC ((pm180 X 74).trans rfl) la st M
theorem e180_77 (X : aX) (la : aLs) (st : List aV) (M : aM) : go X 180 77 la st M = kC X 180 (i_ci (nI 1) 78 la st M) := evC ((pm180 X 77).trans rfl) la st M
theorem e180_78 (X : aX) (la : aLs) (st : List aV) (M : aM) : go X 180 78 la st M = kC X 180 (i_go 82 la st M) := evC ((pm180 X 78).trans rfl) la st M
theorem e180_81 (X : aX) (la : aLs) (st : List aV) (M : aM) : go X 180 81 la st M = kC X 180 (i_ci (nI 0) 82 la st M) := evC ((pm180 X 81).trans rfl) la st M
theorem e180_82 (X : aX) (la : aLs) (st : List aV) (M : aM) : go X 180 82 la st M = kC X 180 (i_bin (fun x y => x + y) 83 la st M) := evC ((pm180 X 82).trans rfl) la st M
theorem e180_83 (X : aX) (la : aLs) (st : List aV) (M : aM) : go X 180 83 la st M = kC X 180 (i_sti 1 84 la st M) := evC ((pm180 X 83).trans rfl) la st M
theorem e180_84 (X : aX) (la : aLs) (st : List aV) (M : aM) : go X 180 84 la st M = kC X 180 (i_inc 2 (nI 1) 87 la st M) := evC ((pm180 X 84).trans rfl) la st M
theorem e180_87 (X : aX) (la : aLs) (st : List aV) (M : aM) : go X 180 87 la st M = kC X 180 (i_go 4 la st M) := evC ((pm180 X 87).trans rfl) la st M
theorem e180_90 (X : aX) (la : aLs) (st : List aV) (M : aM) : go X 180 90 la st M = kC X 180 (i_ldi 1 91 la st M) := evC ((pm180 X 90).trans rfl) la st M
theorem e180_91 (X : aX) (la : aLs) (st : List aV) (M : aM) : go X 180 91 la st M = i_irt st M := evR ((pm180 X 91).trans rfl) la st M
theorem c180 (X : aX) (as : List aV) (M : aM) : cl X 180 as M = if cs as ≤ 5 then go X 180 0 (ent 5 as) [] M else none := rfl
theorem pm181 (X : aX) (pc : Nat) : pg X 181 pc = lk pc (tb181 X) := rfl
theorem e181_0 (X : aX) (la : aLs) (st : List aV) (M : aM) : go X 181 0 la st M = kC X 181 (i_ldi 1 1 la st M) := evC ((pm181 X 0).trans rfl) la st M
theorem e181_1 (X : aX) (la : aLs) (st : List aV) (M : aM) : go X 181 1 la st M = kC X 181 (i_ci (nI 0) 2 la st M) := evC ((pm181 X 1).trans rfl) la st M
theorem e181_2 (X : aX) (la : aLs) (st : List aV) (M : aM) : go X 181 2 la st M = kC X 181 (i_ci (nI 10) 4 la st M) := evC ((pm181 X 2).trans rfl) la st M
theorem e181_4 (X : aX) (la : aLs) (st : List aV) (M : aM) : go X 181 4 la st M = kK X 181 114 3 7 0 la st M := evK ((pm181 X 4).trans rfl) la st M
theorem e181_7 (X : aX) (la : aLs) (st : List aV) (M : aM) : go X 181 7 la st M = kC X 181 (i_ife 19 10 la st M) := evC ((pm181 X 7).trans rfl) la st M
theorem e181_10 (X : aX) (la : aLs) (st : List aV) (M : aM) : go X 181 10 la st M = kC X 181 (i_ldi 2 11 la st M) := evC ((pm181 X 10).trans rfl) la st M
theorem e181_11 (X : aX) (la : aLs) (st : List aV) (M : aM) : go X 181 11 la st M = kC X 181 (i_ci (nI 0) 12 la st M) := evC ((pm181 X 11).trans rfl) la st M
theorem e181_12 (X : aX) (la : aLs) (st : List aV) (M : aM) : go X 181 12 la st M = kC X 181 (i_ci (nI 1) 13 la st M) := evC ((pm181 X 12).trans rfl) la st M
theorem e181_13 (X : aX) (la : aLs) (st : List aV) (M : aM) : go X 181 13 la st M = kK X 181 114 3 16 0 la st M := evK ((pm181 X 13).trans rfl) la st M
theorem e181_16 (X : aX) (la : aLs) (st : List aV) (M : aM) : go X 181 16 la st M = kC X 181 (i_ife 19 27 la st M) := evC ((pm181 X 16).trans rfl) la st M
theorem e181_19 (X : aX) (la : aLs) (st : List aV) (M : aM) : go X 181 19 la st M = kC X 181 (i_lda 0 20 la st M) := evC ((pm181 X 19).trans rfl) la st M
theorem e181_20 (X : aX) (la : aLs) (st : List aV) (M : aM) : go X 181 20 la st M = kC X 181 (i_ci (-1000001) 22 la st M) := evC ((pm181 X 20).trans rfl) la st M
theorem e181_22 (X : aX) (la : aLs) (st : List aV) (M : aM) : go X 181 22 la st M = kK X 181 113 2 25 7 la st M := evK ((pm181 X 22).trans rfl) la st M
theorem e181_25 (X : aX) (la : aLs) (st : List aV) (M : aM) : go X 181 25 la st M = kC X 181 (i_i2l 26 la st M) := evC ((pm181 X 25).trans rfl) la st M
theorem e181_26 (X : aX) (la : aLs) (st : List aV) (M : aM) : go X 181 26 la st M = i_jrt st M := evR ((pm181 X 26).trans rfl) la st M
theorem e181_27 (X : aX) (la : aLs) (st : List aV) (M : aM) : go X 181 27 la st M = kC X 181 (i_lda 0 28 la st M) := evC ((pm181 X 27).trans rfl) la st M
theorem e181_28 (X : aX) (la : aLs) (st : List aV) (M : aM) : go X 181 28 la st M = kK X 181 180 1 31 7 la st M := evK ((pm181 X 28).trans rfl) la st M
theorem e181_31 (X : aX) (la : aLs) (st : List aV) (M : aM) : go X 181 31 la st M = kC X 181 (i_sti 3 32 la st M) := evC ((pm181 X 31).trans rfl) la st M
theorem e181_32 (X : aX) (la : aLs) (st : List aV) (M : aM) : go X 181 32 la st M = kC X 181 (i_ci (nI 60) 34 la st M) := evC ((pm181 X 32).trans rfl) la st M
theorem e181_34 (X : aX) (la : aLs) (st : List aV) (M : aM) : go X 181 34 la st M = kC X 181 (i_sti 4 36 la st M) := evC ((pm181 X 34).trans rfl) la st M
theorem e181_36 (X : aX) (la : aLs) (st : List aV) (M : aM) : go X 181 36 la st M = kC X 181 (i_ldi 3 37 la st M) := evC ((pm181 X 36).trans rfl) la st M
theorem e181_37 (X : aX) (la : aLs) (st : List aV) (M : aM) : go X 181 37 la st M = kC X 181 (i_sti 5 39 la st M) := evC ((pm181 X 37).trans rfl) la st M
theorem e181_39 (X : aX) (la : aLs) (st : List aV) (M : aM) : go X 181 39 la st M = kC X 181 (i_ldi 5 41 la st M) := evC ((pm181 X 39).trans rfl) la st M
theorem e181_41 (X : aX) (la : aLs) (st : List aV) (M : aM) : go X 181 41 la st M = kC X 181 (i_ife 62 44 la st M) := evC ((pm181 X 41).trans rfl) la st M
theorem e181_44 (X : aX) (la : aLs) (st : List aV) (M : aM) : go X 181 44 la st M = kC X 181 (i_ldi 4 46 la st M) := evC ((pm181 X 44).trans rfl) la st M
theorem e181_46 (X : aX) (la : aLs) (st : List aV) (M : aM) : go X 181 46 la st M = kC X 181 (i_ldi 5 48 la st M) := evC ((pm181 X 46).trans rfl) la st M
theorem e181_48 (X : aX) (la : aLs) (st : List aV) (M : aM) : go X 181 48 la st M = kC X 181 (i_div (fun x y => x - x / y * y) 49 la st M) := evC ((pm181 X 48).trans rfl) la st M
theorem e181_49 (X : aX) (la : aLs) (st : List aV) (M : aM) : go X 181 49 la st M = kC X 181 (i_sti 6 51 la st M) := evC ((pm181 X 49).trans rfl) la st M
theorem e181_51 (X : aX) (la : aLs) (st : List aV) (M : aM) : go X 181 51 la st M = kC X 181 (i_ldi 5 53 la st M) := evC ((pm181 X 51).trans rfl) la st M
theorem e181_53 (X : aX) (la : aLs) (st : List aV) (M : aM) : go X 181 53 la st M = kC X 181 (i_sti 4 55 la st M) := evC ((pm181 X 53).trans rfl) la st M
theorem e181_55 (X : aX) (la : aLs) (st : List aV) (M : aM) : go X 181 55 la st M = kC X 181 (i_ldi 6 57 la st M) := evC ((pm181 X 55).trans rfl) la st M
theorem e181_57 (X : aX) (la : aLs) (st : List aV) (M : aM) : go X 181 57 la st M = kC X 181 (i_sti 5 59 la st M) := evC ((pm181 X 57).trans rfl) la st M
theorem e181_59 (X : aX) (la : aLs) (st : List aV) (M : aM) : go X 181 59 la st M = kC X 181 (i_go 39 la st M) := evC ((pm181 X 59).trans rfl) la st M
theorem e181_62 (X : aX) (la : aLs) (st : List aV) (M : aM) : go X 181 62 la st M = kC X 181 (i_cj 1 63 la st M) := evC ((pm181 X 62).trans rfl) la st M
theorem e181_63 (X : aX) (la : aLs) (st : List aV) (M : aM) : go X 181 63 la st M = kC X 181 (i_stj 6 65 la st M) := evC ((pm181 X 63).trans rfl) la st M
theorem e181_65 (X : aX) (la : aLs) (st : List aV) (M : aM) : go X 181 65 la st M = kC X 181 (i_ci (nI 0) 66 la st M) := evC ((pm181 X 65).trans rfl) la st M
theorem e181_66 (X : aX) (la : aLs) (st : List aV) (M : aM) : go X 181 66 la st M = kC X 181 (i_sti 8 68 la st M) := evC ((pm181 X 66).trans rfl) la st M
theorem e181_68 (X : aX) (la : aLs) (st : List aV) (M : aM) : go X 181 68 la st M = kC X 181 (i_ldi 8 70 la st M) := evC ((pm181 X 68).trans rfl) la st M
theorem e181_70 (X : aX) (la : aLs) (st : List aV) (M : aM) : go X 181 70 la st M = kC X 181 (i_ldi 1 71 la st M) := evC ((pm181 X 70).trans rfl) la st M
theorem e181_71 (X : aX) (la : aLs) (st : List aV) (M : aM) : go X 181 71 la st M = kC X 181 (i_cml 74 99 la st M) := evC ((pm181 X 71).trans rfl) la st M
theorem e181_74 (X : aX) (la : aLs) (st : List aV) (M : aM) : go X 181 74 la st M = kC X 181 (i_ldj 6 76 la st M) := evC ((pm181 X 74).trans rfl) la st M
theorem e181_76 (X : aX) (la : aLs) (st : List aV) (M : aM) : go X 181 76 la st M = kC X 181 (i_ldi 2 77 la st M) := evC ((pm181 X 76).trans rfl) la st M
theorem e181_77 (X : aX) (la : aLs) (st : List aV) (M : aM) : go X 181 77 la st M = kC X 181 (i_ife 80 84 la st M) := evC ((pm181 X 77).trans rfl) la st M
theorem e181_80 (X : aX) (la : aLs) (st : List aV) (M : aM) : go X 181 80 la st M = kC X 181 (i_ldi 3 81 la st M) := evC ((pm181 X 80).trans rfl) la st M
theorem e181_81 (X : aX) (la : aLs) (st : List aV) (M : aM) : go X 181 81 la st M = kC X 181 (i_go 86 la st M) := evC ((pm181 X 81).trans rfl) la st M
theorem e181_84 (X : aX) (la : aLs) (st : List aV) (M : aM) : go X 181 84 la st M = kC X 181 (i_ci (nI 60) 86 la st M) := evC ((pm181 X 84).trans rfl) la st M
theorem e181_86 (X : aX) (la : aLs) (st : List aV) (M : aM) : go X 181 86 la st M = kC X 181 (i_ldi 4 88 la st M) := evC ((pm181 X 86).trans rfl) la st M
theorem e181_88 (X : aX) (la : aLs) (st : List aV) (M : aM) : go X 181 88 la st M = kC X 181 (i_div (fun x y => x / y) 89 la st M) := evC ((pm181 X 88).trans rfl) la st M
theorem e181_89 (X : aX) (la : aLs) (st : List aV) (M : aM) : go X 181 89 la st M = kC X 181 (i_i2l 90 la st M) := evC ((pm181 X 89).trans rfl) la st M
theorem e181_90 (X : aX) (la : aLs) (st : List aV) (M : aM) : go X 181 90 la st M = kC X 181 (i_bnj (fun x y => x * y) 91 la st M) := evC ((pm181 X 90).trans rfl) la st M
theorem e181_91 (X : aX) (la : aLs) (st : List aV) (M : aM) : go X 181 91 la st M = kC X 181 (i_stj 6 93 la st M) := evC ((pm181 X 91).trans rfl) la st M
theorem e181_93 (X : aX) (la : aLs) (st : List aV) (M : aM) : go X 181 93 la st M = kC X 181 (i_inc 8 (nI 1) 96 la st M) := evC ((pm181 X 93).trans rfl) la st M
theorem e181_96 (X : aX) (la : aLs) (st : List aV) (M : aM) : go X 181 96 la st M = kC X 181 (i_go 68 la st M) := evC ((pm181 X 96).trans rfl) la st M
theorem e181_99 (X : aX) (la : aLs) (st : List aV) (M : aM) : go X 181 99 la st M = kC X 181 (i_ldj 6 101 la st M) := evC ((pm181 X 99).trans rfl) la st M
theorem e181_101 (X : aX) (la : aLs) (st : List aV) (M : aM) : go X 181 101 la st M = i_jrt st M := evR ((pm181 X 101).trans rfl) la st M
theorem c181 (X : aX) (as : List aV) (M : aM) : cl X 181 as M = if cs as ≤ 9 then go X 181 0 (ent 9 as) [] M else none := rfl
theorem pm182 (X : aX) (pc : Nat) : pg X 182 pc = lk pc (tb182 X) := rfl
theorem e182_0 (X : aX) (la : aLs) (st : List aV) (M : aM) : go X 182 0 la st M = kC X 182 (i_lda 0 1 la st M) := evC ((pm182 X 0).trans rfl) la st M
theorem e182_1 (X : aX) (la : aLs) (st : List aV) (M : aM) : go X 182 1 la st M = kC X 182 (i_ci (nI 2) 2 la st M) := evC ((pm182 X 1).trans rfl) la st M
theorem e182_2 (X : aX) (la : aLs) (st : List aV) (M : aM) : go X 182 2 la st M = kC X 182 (i_ldi 1 3 la st M) := evC ((pm182 X 2).trans rfl) la st M
theorem e182_3 (X : aX) (la : aLs) (st : List aV) (M : aM) : go X 182 3 la st M = kK X 182 115 3 6 7 la st M := evK ((pm182 X 3).trans rfl) la st M
theorem e182_6 (X : aX) (la : aLs) (st : List aV) (M : aM) : go X 182 6 la st M = i_irt st M := evR ((pm182 X 6).trans rfl) la st M
theorem c182 (X : aX) (as : List aV) (M : aM) : cl X 182 as M = if cs as ≤ 2 then go X 182 0 (ent 2 as) [] M else none := rfl
theorem pm183 (X : aX) (pc : Nat) : pg X 183 pc = lk pc (tb183 X) := rfl
theorem e183_0 (X : aX) (la : aLs) (st : List aV) (M : aM) : go X 183 0 la st M = kC X 183 (i_ldi 2 1 la st M) := evC ((pm183 X 0).trans rfl) la st M
theorem e183_1 (X : aX) (la : aLs) (st : List aV) (M : aM) : go X 183 1 la st M = kC X 183 (i_ci (nI 1) 2 la st M) := evC ((pm183 X 1).trans rfl) la st M
theorem e183_2 (X : aX) (la : aLs) (st : List aV) (M : aM) : go X 183 2 la st M = kC X 183 (i_ci (nI 4) 3 la st M) := evC ((pm183 X 2).trans rfl) la st M
theorem e183_3 (X : aX) (la : aLs) (st : List aV) (M : aM) : go X 183 3 la st M = kK X 183 114 3 6 0 la st M := evK ((pm183 X 3).trans rfl) la st M
theorem e183_6 (X : aX) (la : aLs) (st : List aV) (M : aM) : go X 183 6 la st M = kC X 183 (i_ife 9 16 la st M) := evC ((pm183 X 6).trans rfl) la st M
theorem e183_9 (X : aX) (la : aLs) (st : List aV) (M : aM) : go X 183 9 la st M = kC X 183 (i_lda 0 10 la st M) := evC ((pm183 X 9).trans rfl) la st M
theorem e183_10 (X : aX) (la : aLs) (st : List aV) (M : aM) : go X 183 10 la st M = kC X 183 (i_ci (-1000001) 12 la st M) := evC ((pm183 X 10).trans rfl) la st M
theorem e183_12 (X : aX) (la : aLs) (st : List aV) (M : aM) : go X 183 12 la st M = kK X 183 113 2 15 7 la st M := evK ((pm183 X 12).trans rfl) la st M
theorem e183_15 (X : aX) (la : aLs) (st : List aV) (M : aM) : go X 183 15 la st M = i_irt st M := evR ((pm183 X 15).trans rfl) la st M
theorem e183_16 (X : aX) (la : aLs) (st : List aV) (M : aM) : go X 183 16 la st M = kC X 183 (i_lda 0 17 la st M) := evC ((pm183 X 16).trans rfl) la st M
theorem e183_17 (X : aX) (la : aLs) (st : List aV) (M : aM) : go X 183 17 la st M = kC X 183 (i_get 6 8 20 la st M) := evC ((pm183 X 17).trans rfl) la st M
theorem e183_20 (X : aX) (la : aLs) (st : List aV) (M : aM) : go X 183 20 la st M = kC X 183 (i_ldi 2 21 la st M) := evC ((pm183 X 20).trans rfl) la st M
theorem e183_21 (X : aX) (la : aLs) (st : List aV) (M : aM) : go X 183 21 la st M = kC X 183 (i_bin (fun x y => x + y) 22 la st M) := evC ((pm183 X 21).trans rfl) la st M
theorem e183_22 (X : aX) (la : aLs) (st : List aV) (M : aM) : go X 183 22 la st M = kC X 183 (i_ci (nI 120) 24 la st M) := evC ((pm183 X 22).trans rfl) la st M
theorem e183_24 (X : aX) (la : aLs) (st : List aV) (M : aM) : go X 183 24 la st M = kC X 183 (i_cmg 27 34 la st M) := evC ((pm183 X 24).trans rfl) la st M
theorem e183_27 (X : aX) (la : aLs) (st : List aV) (M : aM) : go X 183 27 la st M = kC X 183 (i_lda 0 28 la st M) := evC ((pm183 X 27).trans rfl) la st M
theorem e183_28 (X : aX) (la : aLs) (st : List aV) (M : aM) : go X 183 28 la st M = kC X 183 (i_ci (-1000002) 30 la st M) := evC ((pm183 X 28).trans rfl) la st M
theorem e183_30 (X : aX) (la : aLs) (st : List aV) (M : aM) : go X 183 30 la st M = kK X 183 113 2 33 7 la st M := evK ((pm183 X 30).trans rfl) la st M
theorem e183_33 (X : aX) (la : aLs) (st : List aV) (M : aM) : go X 183 33 la st M = i_irt st M := evR ((pm183 X 33).trans rfl) la st M
theorem e183_34 (X : aX) (la : aLs) (st : List aV) (M : aM) : go X 183 34 la st M = kC X 183 (i_ldi 2 35 la st M) := evC ((pm183 X 34).trans rfl) la st M
theorem e183_35 (X : aX) (la : aLs) (st : List aV) (M : aM) : go X 183 35 la st M = kC X 183 (i_ci (nI 1) 36 la st M) := evC ((pm183 X 35).trans rfl) la st M
theorem e183_36 (X : aX) (la : aLs) (st : List aV) (M : aM) : go X 183 36 la st M = kC X 183 (i_bin (fun x y => x - y) 37 la st M) := evC ((pm183 X 36).trans rfl) la st M
theorem e183_37 (X : aX) (la : aLs) (st : List aV) (M : aM) : go X 183 37 la st M = kC X 183 (i_sti 3 38 la st M) := evC ((pm183 X 37).trans rfl) la st M
theorem e183_38 (X : aX) (la : aLs) (st : List aV) (M : aM) : go X 183 38 la st M = kC X 183 (i_ldi 3 39 la st M) := evC ((pm183 X 38).trans rfl) la st M
theorem e183_39 (X : aX) (la : aLs) (st : List aV) (M : aM) : go X 183 39 la st M = kC X 183 (i_ifl 77 42 la st M) := evC ((pm183 X 39).trans rfl) la st M
theorem e183_42 (X : aX) (la : aLs) (st : List aV) (M : aM) : go X 183 42 la st M = kC X 183 (i_lda 0 43 la st M) := evC ((pm183 X 42).trans rfl) la st M
theorem e183_43 (X : aX) (la : aLs) (st : List aV) (M : aM) : go X 183 43 la st M = kC X 183 (i_get 6 7 46 la st M) := evC ((pm183 X 43).trans rfl) la st M
theorem e183_46 (X : aX) (la : aLs) (st : List aV) (M : aM) : go X 183 46 la st M = kC X 183 (i_lda 0 47 la st M) := evC ((pm183 X 46).trans rfl) la st M
theorem e183_47 (X : aX) (la : aLs) (st : List aV) (M : aM) : go X 183 47 la st M = kC X 183 (i_get 6 8 50 la st M) := evC ((pm183 X 47).trans rfl) la st M
theorem e183_50 (X : aX) (la : aLs) (st : List aV) (M : aM) : go X 183 50 la st M = kC X 183 (i_ldi 1 51 la st M) := evC ((pm183 X 50).trans rfl) la st M
theorem e183_51 (X : aX) (la : aLs) (st : List aV) (M : aM) : go X 183 51 la st M = kC X 183 (i_ci (nI 8) 53 la st M) := evC ((pm183 X 51).trans rfl) la st M
theorem e183_53 (X : aX) (la : aLs) (st : List aV) (M : aM) : go X 183 53 la st M = kC X 183 (i_ldi 3 54 la st M) := evC ((pm183 X 53).trans rfl) la st M
theorem e183_54 (X : aX) (la : aLs) (st : List aV) (M : aM) : go X 183 54 la st M = kC X 183 (i_bin (fun x y => x * y) 55 la st M) := evC ((pm183 X 54).trans rfl) la st M
theorem e183_55 (X : aX) (la : aLs) (st : List aV) (M : aM) : go X 183 55 la st M = kC X 183 (i_bin (fun x y => x >>> (y &&& 31)) 56 la st M) := evC ((pm183 X 55).trans rfl) la st M
theorem e183_56 (X : aX) (la : aLs) (st : List aV) (M : aM) : go X 183 56 la st M = kC X 183 (i_ci (nI 255) 59 la st M) := evC ((pm183 X 56).trans rfl) la st M
theorem e183_59 (X : aX) (la : aLs) (st : List aV) (M : aM) : go X 183 59 la st M = kC X 183 (i_bin (fun x y => x &&& y) 60 la st M) := evC ((pm183 X 59).trans rfl) la st M
theorem e183_60 (X : aX) (la : aLs) (st : List aV) (M : aM) : go X 183 60 la st M = kC X 183 (i_ias 61 la st M) := evC ((pm183 X 60).trans rfl) la st M
theorem e183_61 (X : aX) (la : aLs) (st : List aV) (M : aM) : go X 183 61 la st M = kC X 183 (i_lda 0 62 la st M) := evC ((pm183 X 61).trans rfl) la st M
theorem e183_62 (X : aX) (la : aLs) (st : List aV) (M : aM) : go X 183 62 la st M = kC X 183 (i_dup 63 la st M) := evC ((pm183 X 62).trans rfl) la st M
theorem e183_63 (X : aX) (la : aLs) (st : List aV) (M : aM) : go X 183 63 la st M = kC X 183 (i_get 6 8 66 la st M) := evC ((pm183 X 63).trans rfl) la st M
theorem e183_66 (X : aX) (la : aLs) (st : List aV) (M : aM) : go X 183 66 la st M = kC X 183 (i_ci (nI 1) 67 la st M) := evC ((pm183 X 66).trans rfl) la st M
theorem e183_67 (X : aX) (la : aLs) (st : List aV) (M : aM) : go X 183 67 la st M = kC X 183 (i_bin (fun x y => x + y) 68 la st M) := evC ((pm183 X 67).trans rfl) la st M
theorem e183_68 (X : aX) (la : aLs) (st : List aV) (M : aM) : go X 183 68 la st M = kC X 183 (i_put 6 8 0 71 la st M) := evC ((pm183 X 68).trans rfl) la st M
theorem e183_71 (X : aX) (la : aLs) (st : List aV) (M : aM) : go X 183 71 la st M = kC X 183 (i_inc 3 (-1) 74 la st M) := evC ((pm183 X 71).trans rfl) la st M
theorem e183_74 (X : aX) (la : aLs) (st : List aV) (M : aM) : go X 183 74 la st M = kC X 183 (i_go 38 la st M) := evC ((pm183 X 74).trans rfl) la st M
theorem e183_77 (X : aX) (la : aLs) (st : List aV) (M : aM) : go X 183 77 la st M = kC X 183 (i_lda 0 78 la st M) := evC ((pm183 X 77).trans rfl) la st M
theorem e183_78 (X : aX) (la : aLs) (st : List aV) (M : aM) : go X 183 78 la st M = kC X 183 (i_get 6 8 81 la st M) := evC ((pm183 X 78).trans rfl) la st M
theorem e183_81 (X : aX) (la : aLs) (st : List aV) (M : aM) : go X 183 81 la st M = i_irt st M := evR ((pm183 X 81).trans rfl) la st M
theorem c183 (X : aX) (as : List aV) (M : aM) : cl X 183 as M = if cs as ≤ 4 then go X 183 0 (ent 4 as) [] M else none := rfl
theorem pm184 (X : aX) (pc : Nat) : pg X 184 pc = lk pc (tb184 X) := rfl
theorem e184_0 (X : aX) (la : aLs) (st : List aV) (M : aM) : go X 184 0 la st M = kC X 184 (i_lda 0 1 la st M) := evC ((pm184 X 0).trans rfl) la st M
theorem e184_1 (X : aX) (la : aLs) (st : List aV) (M : aM) : go X 184 1 la st M = kC X 184 (i_get 6 8 4 la st M) := evC ((pm184 X 1).trans rfl) la st M
theorem e184_4 (X : aX) (la : aLs) (st : List aV) (M : aM) : go X 184 4 la st M = kC X 184 (i_sti 1 5 la st M) := evC ((pm184 X 4).trans rfl) la st M
theorem e184_5 (X : aX) (la : aLs) (st : List aV) (M : aM) : go X 184 5 la st M = kC X 184 (i_lda 0 6 la st M) := evC ((pm184 X 5).trans rfl) la st M
theorem e184_6 (X : aX) (la : aLs) (st : List aV) (M : aM) : go X 184 6 la st M = kC X 184 (i_ci (nI 0) 7 la st M) := evC ((pm184 X 6).trans rfl) la st M
theorem e184_7 (X : aX) (la : aLs) (st : List aV) (M : aM) : go X 184 7 la st M = kC X 184 (i_put 6 8 0 10 la st M) := evC ((pm184 X 7).trans rfl) la st M
theorem e184_10 (X : aX) (la : aLs) (st : List aV) (M : aM) : go X 184 10 la st M = kC X 184 (i_ldi 1 11 la st M) := evC ((pm184 X 10).trans rfl) la st M
theorem e184_11 (X : aX) (la : aLs) (st : List aV) (M : aM) : go X 184 11 la st M = i_irt st M := evR ((pm184 X 11).trans rfl) la st M
theorem c184 (X : aX) (as : List aV) (M : aM) : cl X 184 as M = if cs as ≤ 2 then go X 184 0 (ent 2 as) [] M else none := rfl
theorem pm185 (X : aX) (pc : Nat) : pg X 185 pc = lk pc (tb185 X) := rfl
theorem e185_0 (X : aX) (la : aLs) (st : List aV) (M : aM) : go X 185 0 la st M = kC X 185 (i_ldi 1 1 la st M) := evC ((pm185 X 0).trans rfl) la st M
theorem e185_1 (X : aX) (la : aLs) (st : List aV) (M : aM) : go X 185 1 la st M = kC X 185 (i_lda 0 2 la st M) := evC ((pm185 X 1).trans rfl) la st M
theorem e185_2 (X : aX) (la : aLs) (st : List aV) (M : aM) : go X 185 2 la st M = kC X 185 (i_get 6 8 5 la st M) := evC ((pm185 X 2).trans rfl) la st M
theorem e185_5 (X : aX) (la : aLs) (st : List aV) (M : aM) : go X 185 5 la st M = kC X 185 (i_cml 8 17 la st M) := evC ((pm185 X 5).trans rfl) la st M
theorem e185_8 (X : aX) (la : aLs) (st : List aV) (M : aM) : go X 185 8 la st M = kC X 185 (i_lda 0 9 la st M) := evC ((pm185 X 8).trans rfl) la st M
theorem e185_9 (X : aX) (la : aLs) (st : List aV) (M : aM) : go X 185 9 la st M = kC X 185 (i_get 6 7 12 la st M) := evC ((pm185 X 9).trans rfl) la st M
theorem e185_12 (X : aX) (la : aLs) (st : List aV) (M : aM) : go X 185 12 la st M = kC X 185 (i_ldi 1 13 la st M) := evC ((pm185 X 12).trans rfl) la st M
theorem e185_13 (X : aX) (la : aLs) (st : List aV) (M : aM) : go X 185 13 la st M = kC X 185 (i_ial X 14 la st M) := evC ((pm185 X 13).trans rfl) la st M
theorem e185_14 (X : aX) (la : aLs) (st : List aV) (M : aM) : go X 185 14 la st M = kC X 185 (i_go 18 la st M) := evC ((pm185 X 14).trans rfl) la st M
theorem e185_17 (X : aX) (la : aLs) (st : List aV) (M : aM) : go X 185 17 la st M = kC X 185 (i_ci (-1) 18 la st M) := evC ((pm185 X 17).trans rfl) la st M
theorem e185_18 (X : aX) (la : aLs) (st : List aV) (M : aM) : go X 185 18 la st M = i_irt st M := evR ((pm185 X 18).trans rfl) la st M
theorem c185 (X : aX) (as : List aV) (M : aM) : cl X 185 as M = if cs as ≤ 2 then go X 185 0 (ent 2 as) [] M else none := rfl
theorem pm186 (X : aX) (pc : Nat) : pg X 186 pc = lk pc (tb186 X) := rfl
theorem e186_0 (X : aX) (la : aLs) (st : List aV) (M : aM) : go X 186 0 la st M = kC X 186 (i_lda 0 1 la st M) := evC ((pm186 X 0).trans rfl) la st M
theorem e186_1 (X : aX) (la : aLs) (st : List aV) (M : aM) : go X 186 1 la st M = kC X 186 (i_lda 0 2 la st M) := evC ((pm186 X 1).trans rfl) la st M
theorem e186_2 (X : aX) (la : aLs) (st : List aV) (M : aM) : go X 186 2 la st M = kC X 186 (i_get 6 10 5 la st M) := evC ((pm186 X 2).trans rfl) la st M
theorem e186_5 (X : aX) (la : aLs) (st : List aV) (M : aM) : go X 186 5 la st M = kC X 186 (i_put 6 9 0 8 la st M) := evC ((pm186 X 5).trans rfl) la st M
theorem e186_8 (X : aX) (la : aLs) (st : List aV) (M : aM) : go X 186 8 la st M = kC X 186 (i_lda 0 9 la st M) := evC ((pm186 X 8).trans rfl) la st M
theorem e186_9 (X : aX) (la : aLs) (st : List aV) (M : aM) : go X 186 9 la st M = kC X 186 (i_lda 0 10 la st M) := evC ((pm186 X 9).trans rfl) la st M
theorem e186_10 (X : aX) (la : aLs) (st : List aV) (M : aM) : go X 186 10 la st M = kC X 186 (i_get 6 9 13 la st M) := evC ((pm186 X 10).trans rfl) la st M
theorem e186_13 (X : aX) (la : aLs) (st : List aV) (M : aM) : go X 186 13 la st M = kK X 186 185 2 16 7 la st M := evK ((pm186 X 13).trans rfl) la st M
theorem e186_16 (X : aX) (la : aLs) (st : List aV) (M : aM) : go X 186 16 la st M = kC X 186 (i_ci (nI 32) 18 la st M) := evC ((pm186 X 16).trans rfl) la st M
theorem e186_18 (X : aX) (la : aLs) (st : List aV) (M : aM) : go X 186 18 la st M = kC X 186 (i_cme 21 34 la st M) := evC ((pm186 X 18).trans rfl) la st M
theorem e186_21 (X : aX) (la : aLs) (st : List aV) (M : aM) : go X 186 21 la st M = kC X 186 (i_lda 0 22 la st M) := evC ((pm186 X 21).trans rfl) la st M
theorem e186_22 (X : aX) (la : aLs) (st : List aV) (M : aM) : go X 186 22 la st M = kC X 186 (i_dup 23 la st M) := evC ((pm186 X 22).trans rfl) la st M
theorem e186_23 (X : aX) (la : aLs) (st : List aV) (M : aM) : go X 186 23 la st M = kC X 186 (i_get 6 9 26 la st M) := evC ((pm186 X 23).trans rfl) la st M
theorem e186_26 (X : aX) (la : aLs) (st : List aV) (M : aM) : go X 186 26 la st M = kC X 186 (i_ci (nI 1) 27 la st M) := evC ((pm186 X 26).trans rfl) la st M
theorem e186_27 (X : aX) (la : aLs) (st : List aV) (M : aM) : go X 186 27 la st M = kC X 186 (i_bin (fun x y => x + y) 28 la st M) := evC ((pm186 X 27).trans rfl) la st M
theorem e186_28 (X : aX) (la : aLs) (st : List aV) (M : aM) : go X 186 28 la st M = kC X 186 (i_put 6 9 0 31 la st M) := evC ((pm186 X 28).trans rfl) la st M
theorem e186_31 (X : aX) (la : aLs) (st : List aV) (M : aM) : go X 186 31 la st M = kC X 186 (i_go 8 la st M) := evC ((pm186 X 31).trans rfl) la st M
theorem e186_34 (X : aX) (la : aLs) (st : List aV) (M : aM) : go X 186 34 la st M = kC X 186 (i_lda 0 35 la st M) := evC ((pm186 X 34).trans rfl) la st M
theorem e186_35 (X : aX) (la : aLs) (st : List aV) (M : aM) : go X 186 35 la st M = kC X 186 (i_lda 0 36 la st M) := evC ((pm186 X 35).trans rfl) la st M
theorem e186_36 (X : aX) (la : aLs) (st : List aV) (M : aM) : go X 186 36 la st M = kC X 186 (i_get 6 9 39 la st M) := evC ((pm186 X 36).trans rfl) la st M
theorem e186_39 (X : aX) (la : aLs) (st : List aV) (M : aM) : go X 186 39 la st M = kK X 186 185 2 42 7 la st M := evK ((pm186 X 39).trans rfl) la st M
theorem e186_42 (X : aX) (la : aLs) (st : List aV) (M : aM) : go X 186 42 la st M = kC X 186 (i_sti 1 43 la st M) := evC ((pm186 X 42).trans rfl) la st M
theorem e186_43 (X : aX) (la : aLs) (st : List aV) (M : aM) : go X 186 43 la st M = kC X 186 (i_lda 0 44 la st M) := evC ((pm186 X 43).trans rfl) la st M
theorem e186_44 (X : aX) (la : aLs) (st : List aV) (M : aM) : go X 186 44 la st M = kC X 186 (i_lda 0 45 la st M) := evC ((pm186 X 44).trans rfl) la st M
theorem e186_45 (X : aX) (la : aLs) (st : List aV) (M : aM) : go X 186 45 la st M = kC X 186 (i_get 6 9 48 la st M) := evC ((pm186 X 45).trans rfl) la st M
theorem e186_48 (X : aX) (la : aLs) (st : List aV) (M : aM) : go X 186 48 la st M = kC X 186 (i_put 6 10 0 51 la st M) := evC ((pm186 X 48).trans rfl) la st M
theorem e186_51 (X : aX) (la : aLs) (st : List aV) (M : aM) : go X 186 51 la st M = kC X 186 (i_lda 0 52 la st M) := evC ((pm186 X 51).trans rfl) la st M
theorem e186_52 (X : aX) (la : aLs) (st : List aV) (M : aM) : go X 186 52 la st M = kC X 186 (i_ci (nI 0) 53 la st M) := evC ((pm186 X 52).trans rfl) la st M
theorem e186_53 (X : aX) (la : aLs) (st : List aV) (M : aM) : go X 186 53 la st M = kC X 186 (i_put 6 12 0 56 la st M) := evC ((pm186 X 53).trans rfl) la st M
theorem e186_56 (X : aX) (la : aLs) (st : List aV) (M : aM) : go X 186 56 la st M = kC X 186 (i_ldi 1 57 la st M) := evC ((pm186 X 56).trans rfl) la st M
theorem e186_57 (X : aX) (la : aLs) (st : List aV) (M : aM) : go X 186 57 la st M = kC X 186 (i_ifl 60 68 la st M) := evC ((pm186 X 57).trans rfl) la st M
theorem e186_60 (X : aX) (la : aLs) (st : List aV) (M : aM) : go X 186 60 la st M = kC X 186 (i_lda 0 61 la st M) := evC ((pm186 X 60).trans rfl) la st M
theorem e186_61 (X : aX) (la : aLs) (st : List aV) (M : aM) : go X 186 61 la st M = kC X 186 (i_ci (nI 0) 62 la st M) := evC ((pm186 X 61).trans rfl) la st M
theorem e186_62 (X : aX) (la : aLs) (st : List aV) (M : aM) : go X 186 62 la st M = kC X 186 (i_put 6 11 0 65 la st M) := evC ((pm186 X 62).trans rfl) la st M
theorem e186_65 (X : aX) (la : aLs) (st : List aV) (M : aM) : go X 186 65 la st M = kC X 186 (i_go 206 la st M) := evC ((pm186 X 65).trans rfl) la st M
theorem e186_68 (X : aX) (la : aLs) (st : List aV) (M : aM) : go X 186 68 la st M = kC X 186 (i_ldi 1 69 la st M) := evC ((pm186 X 68).trans rfl) la st M
theorem e186_69 (X : aX) (la : aLs) (st : List aV) (M : aM) : go X 186 69 la st M = kC X 186 (i_ci (nI 97) 71 la st M) := evC ((pm186 X 69).trans rfl) la st M
theorem e186_71 (X : aX) (la : aLs) (st : List aV) (M : aM) : go X 186 71 la st M = kC X 186 (i_ci (nI 122) 73 la st M) := evC ((pm186 X 71).trans rfl) la st M
theorem e186_73 (X : aX) (la : aLs) (st : List aV) (M : aM) : go X 186 73 la st M = kK X 186 114 3 76 0 la st M := evK ((pm186 X 73).trans rfl) la st M
theorem e186_76 (X : aX) (la : aLs) (st : List aV) (M : aM) : go X 186 76 la st M = kC X 186 (i_ife 115 79 la st M) := evC ((pm186 X 76).trans rfl) la st M
theorem e186_79 (X : aX) (la : aLs) (st : List aV) (M : aM) : go X 186 79 la st M = kC X 186 (i_lda 0 80 la st M) := evC ((pm186 X 79).trans rfl) la st M
theorem e186_80 (X : aX) (la : aLs) (st : List aV) (M : aM) : go X 186 80 la st M = kC X 186 (i_ci (nI 1) 81 la st M) := evC ((pm186 X 80).trans rfl) la st M
theorem e186_81 (X : aX) (la : aLs) (st : List aV) (M : aM) : go X 186 81 la st M = kC X 186 (i_put 6 11 0 84 la st M) := evC ((pm186 X 81).trans rfl) la st M
theorem e186_84 (X : aX) (la : aLs) (st : List aV) (M : aM) : go X 186 84 la st M = kC X 186 (i_lda 0 85 la st M) := evC ((pm186 X 84).trans rfl) la st M
theorem e186_85 (X : aX) (la : aLs) (st : List aV) (M : aM) : go X 186 85 la st M = kC X 186 (i_lda 0 86 la st M) := evC ((pm186 X 85).trans rfl) la st M
theorem e186_86 (X : aX) (la : aLs) (st : List aV) (M : aM) : go X 186 86 la st M = kC X 186 (i_get 6 10 89 la st M) := evC ((pm186 X 86).trans rfl) la st M
theorem e186_89 (X : aX) (la : aLs) (st : List aV) (M : aM) : go X 186 89 la st M = kK X 186 185 2 92 7 la st M := evK ((pm186 X 89).trans rfl) la st M
theorem e186_92 (X : aX) (la : aLs) (st : List aV) (M : aM) : go X 186 92 la st M = kC X 186 (i_ci (nI 97) 94 la st M) := evC ((pm186 X 92).trans rfl) la st M
theorem e186_94 (X : aX) (la : aLs) (st : List aV) (M : aM) : go X 186 94 la st M = kC X 186 (i_ci (nI 122) 96 la st M) := evC ((pm186 X 94).trans rfl) la st M
theorem e186_96 (X : aX) (la : aLs) (st : List aV) (M : aM) : go X 186 96 la st M = kK X 186 114 3 99 0 la st M := evK ((pm186 X 96).trans rfl) la st M
theorem e186_99 (X : aX) (la : aLs) (st : List aV) (M : aM) : go X 186 99 la st M = kC X 186 (i_ife 206 102 la st M) := evC ((pm186 X 99).trans rfl) la st M
theorem e186_102 (X : aX) (la : aLs) (st : List aV) (M : aM) : go X 186 102 la st M = kC X 186 (i_lda 0 103 la st M) := evC ((pm186 X 102).trans rfl) la st M
theorem e186_103 (X : aX) (la : aLs) (st : List aV) (M : aM) : go X 186 103 la st M = kC X 186 (i_dup 104 la st M) := evC ((pm186 X 103).trans rfl) la st M
theorem e186_104 (X : aX) (la : aLs) (st : List aV) (M : aM) : go X 186 104 la st M = kC X 186 (i_get 6 10 107 la st M) := evC ((pm186 X 104).trans rfl) la st M
theorem e186_107 (X : aX) (la : aLs) (st : List aV) (M : aM) : go X 186 107 la st M = kC X 186 (i_ci (nI 1) 108 la st M) := evC ((pm186 X 107).trans rfl) la st M
theorem e186_108 (X : aX) (la : aLs) (st : List aV) (M : aM) : go X 186 108 la st M = kC X 186 (i_bin (fun x y => x + y) 109 la st M) := evC ((pm186 X 108).trans rfl) la st M
theorem e186_109 (X : aX) (la : aLs) (st : List aV) (M : aM) : go X 186 109 la st M = kC X 186 (i_put 6 10 0 112 la st M) := evC ((pm186 X 109).trans rfl) la st M
theorem e186_112 (X : aX) (la : aLs) (st : List aV) (M : aM) : go X 186 112 la st M = kC X 186 (i_go 84 la st M) := evC ((pm186 X 112).trans rfl) la st M
theorem e186_115 (X : aX) (la : aLs) (st : List aV) (M : aM) : go X 186 115 la st M = kC X 186 (i_ldi 1 116 la st M) := evC ((pm186 X 115).trans rfl) la st M
theorem e186_116 (X : aX) (la : aLs) (st : List aV) (M : aM) : go X 186 116 la st M = kC X 186 (i_ci (nI 48) 118 la st M) := evC ((pm186 X 116).trans rfl) la st M
theorem e186_118 (X : aX) (la : aLs) (st : List aV) (M : aM) : go X 186 118 la st M = kC X 186 (i_ci (nI 57) 120 la st M) := evC ((pm186 X 118).trans rfl) la st M
theorem e186_120 (X : aX) (la : aLs) (st : List aV) (M : aM) : go X 186 120 la st M = kK X 186 114 3 123 0 la st M := evK ((pm186 X 120).trans rfl) la st M
theorem e186_123 (X : aX) (la : aLs) (st : List aV) (M : aM) : go X 186 123 la st M = kC X 186 (i_ife 191 126 la st M) := evC ((pm186 X 123).trans rfl) la st M
theorem e186_126 (X : aX) (la : aLs) (st : List aV) (M : aM) : go X 186 126 la st M = kC X 186 (i_lda 0 127 la st M) := evC ((pm186 X 126).trans rfl) la st M
theorem e186_127 (X : aX) (la : aLs) (st : List aV) (M : aM) : go X 186 127 la st M = kC X 186 (i_ci (nI 2) 128 la st M) := evC ((pm186 X 127).trans rfl) la st M
theorem e186_128 (X : aX) (la : aLs) (st : List aV) (M : aM) : go X 186 128 la st M = kC X 186 (i_put 6 11 0 131 la st M) := evC ((pm186 X 128).trans rfl) la st M
theorem e186_131 (X : aX) (la : aLs) (st : List aV) (M : aM) : go X 186 131 la st M = kC X 186 (i_lda 0 132 la st M) := evC ((pm186 X 131).trans rfl) la st M
theorem e186_132 (X : aX) (la : aLs) (st : List aV) (M : aM) : go X 186 132 la st M = kC X 186 (i_lda 0 133 la st M) := evC ((pm186 X 132).trans rfl) la st M
theorem e186_133 (X : aX) (la : aLs) (st : List aV) (M : aM) : go X 186 133 la st M = kC X 186 (i_get 6 10 136 la st M) := evC ((pm186 X 133).trans rfl) la st M
theorem e186_136 (X : aX) (la : aLs) (st : List aV) (M : aM) : go X 186 136 la st M = kK X 186 185 2 139 7 la st M := evK ((pm186 X 136).trans rfl) la st M
theorem e186_139 (X : aX) (la : aLs) (st : List aV) (M : aM) : go X 186 139 la st M = kC X 186 (i_ci (nI 48) 141 la st M) := evC ((pm186 X 139).trans rfl) la st M
theorem e186_141 (X : aX) (la : aLs) (st : List aV) (M : aM) : go X 186 141 la st M = kC X 186 (i_ci (nI 57) 143 la st M) := evC ((pm186 X 141).trans rfl) la st M
theorem e186_143 (X : aX) (la : aLs) (st : List aV) (M : aM) : go X 186 143 la st M = kK X 186 114 3 146 0 la st M := evK ((pm186 X 143).trans rfl) la st M
theorem e186_146 (X : aX) (la : aLs) (st : List aV) (M : aM) : go X 186 146 la st M = kC X 186 (i_ife 206 149 la st M) := evC ((pm186 X 146).trans rfl) la st M
theorem e186_149 (X : aX) (la : aLs) (st : List aV) (M : aM) : go X 186 149 la st M = kC X 186 (i_lda 0 150 la st M) := evC ((pm186 X 149).trans rfl) la st M
theorem e186_150 (X : aX) (la : aLs) (st : List aV) (M : aM) : go X 186 150 la st M = kC X 186 (i_ci (nI 1000) 153 la st M) := evC ((pm186 X 150).trans rfl) la st M
theorem e186_153 (X : aX) (la : aLs) (st : List aV) (M : aM) : go X 186 153 la st M = kC X 186 (i_ci (nI 10) 155 la st M) := evC ((pm186 X 153).trans rfl) la st M
theorem e186_155 (X : aX) (la : aLs) (st : List aV) (M : aM) : go X 186 155 la st M = kC X 186 (i_lda 0 156 la st M) := evC ((pm186 X 155).trans rfl) la st M
theorem e186_156 (X : aX) (la : aLs) (st : List aV) (M : aM) : go X 186 156 la st M = kC X 186 (i_get 6 12 159 la st M) := evC ((pm186 X 156).trans rfl) la st M
theorem e186_159 (X : aX) (la : aLs) (st : List aV) (M : aM) : go X 186 159 la st M = kC X 186 (i_bin (fun x y => x * y) 160 la st M) := evC ((pm186 X 159).trans rfl) la st M
theorem e186_160 (X : aX) (la : aLs) (st : List aV) (M : aM) : go X 186 160 la st M = kC X 186 (i_lda 0 161 la st M) := evC ((pm186 X 160).trans rfl) la st M
theorem e186_161 (X : aX) (la : aLs) (st : List aV) (M : aM) : go X 186 161 la st M = kC X 186 (i_lda 0 162 la st M) := evC ((pm186 X 161).trans rfl) la st M
theorem e186_162 (X : aX) (la : aLs) (st : List aV) (M : aM) : go X 186 162 la st M = kC X 186 (i_get 6 10 165 la st M) := evC ((pm186 X 162).trans rfl) la st M
theorem e186_165 (X : aX) (la : aLs) (st : List aV) (M : aM) : go X 186 165 la st M = kK X 186 185 2 168 7 la st M := evK ((pm186 X 165).trans rfl) la st M
theorem e186_168 (X : aX) (la : aLs) (st : List aV) (M : aM) : go X 186 168 la st M = kC X 186 (i_bin (fun x y => x + y) 169 la st M) := evC ((pm186 X 168).trans rfl) la st M
theorem e186_169 (X : aX) (la : aLs) (st : List aV) (M : aM) : go X 186 169 la st M = kC X 186 (i_ci (nI 48) 171 la st M) := evC ((pm186 X 169).trans rfl) la st M
theorem e186_171 (X : aX) (la : aLs) (st : List aV) (M : aM) : go X 186 171 la st M = kC X 186 (i_bin (fun x y => x - y) 172 la st M) := evC ((pm186 X 171).trans rfl) la st M
theorem e186_172 (X : aX) (la : aLs) (st : List aV) (M : aM) : go X 186 172 la st M = kC X 186 (i_min 175 la st M) := evC ((pm186 X 172).trans rfl) la st M
theorem e186_175 (X : aX) (la : aLs) (st : List aV) (M : aM) : go X 186 175 la st M = kC X 186 (i_put 6 12 0 178 la st M) := evC ((pm186 X 175).trans rfl) la st M
theorem e186_178 (X : aX) (la : aLs) (st : List aV) (M : aM) : go X 186 178 la st M = kC X 186 (i_lda 0 179 la st M) := evC ((pm186 X 178).trans rfl) la st M
theorem e186_179 (X : aX) (la : aLs) (st : List aV) (M : aM) : go X 186 179 la st M = kC X 186 (i_dup 180 la st M) := evC ((pm186 X 179).trans rfl) la st M
theorem e186_180 (X : aX) (la : aLs) (st : List aV) (M : aM) : go X 186 180 la st M = kC X 186 (i_get 6 10 183 la st M) := evC ((pm186 X 180).trans rfl) la st M
theorem e186_183 (X : aX) (la : aLs) (st : List aV) (M : aM) : go X 186 183 la st M = kC X 186 (i_ci (nI 1) 184 la st M) := evC ((pm186 X 183).trans rfl) la st M
theorem e186_184 (X : aX) (la : aLs) (st : List aV) (M : aM) : go X 186 184 la st M = kC X 186 (i_bin (fun x y => x + y) 185 la st M) := evC ((pm186 X 184).trans rfl) la st M
theorem e186_185 (X : aX) (la : aLs) (st : List aV) (M : aM) : go X 186 185 la st M = kC X 186 (i_put 6 10 0 188 la st M) := evC ((pm186 X 185).trans rfl) la st M
theorem e186_188 (X : aX) (la : aLs) (st : List aV) (M : aM) : go X 186 188 la st M = kC X 186 (i_go 131 la st M) := evC ((pm186 X 188).trans rfl) la st M
theorem e186_191 (X : aX) (la : aLs) (st : List aV) (M : aM) : go X 186 191 la st M = kC X 186 (i_lda 0 192 la st M) := evC ((pm186 X 191).trans rfl) la st M
theorem e186_192 (X : aX) (la : aLs) (st : List aV) (M : aM) : go X 186 192 la st M = kC X 186 (i_ci (nI 3) 193 la st M) := evC ((pm186 X 192).trans rfl) la st M
theorem e186_193 (X : aX) (la : aLs) (st : List aV) (M : aM) : go X 186 193 la st M = kC X 186 (i_put 6 11 0 196 la st M) := evC ((pm186 X 193).trans rfl) la st M
theorem e186_196 (X : aX) (la : aLs) (st : List aV) (M : aM) : go X 186 196 la st M = kC X 186 (i_lda 0 197 la st M) := evC ((pm186 X 196).trans rfl) la st M
theorem e186_197 (X : aX) (la : aLs) (st : List aV) (M : aM) : go X 186 197 la st M = kC X 186 (i_dup 198 la st M) := evC ((pm186 X 197).trans rfl) la st M
theorem e186_198 (X : aX) (la : aLs) (st : List aV) (M : aM) : go X 186 198 la st M = kC X 186 (i_get 6 10 201 la st M) := evC ((pm186 X 198).trans rfl) la st M
theorem e186_201 (X : aX) (la : aLs) (st : List aV) (M : aM) : go X 186 201 la st M = kC X 186 (i_ci (nI 1) 202 la st M) := evC ((pm186 X 201).trans rfl) la st M
theorem e186_202 (X : aX) (la : aLs) (st : List aV) (M : aM) : go X 186 202 la st M = kC X 186 (i_bin (fun x y => x + y) 203 la st M) := evC ((pm186 X 202).trans rfl) la st M
theorem e186_203 (X : aX) (la : aLs) (st : List aV) (M : aM) : go X 186 203 la st M = kC X 186 (i_put 6 10 0 206 la st M) := evC ((pm186 X 203).trans rfl) la st M
theorem e186_206 (X : aX) (la : aLs) (st : List aV) (M : aM) : go X 186 206 la st M = i_vrt st M := evR ((pm186 X 206).trans rfl) la st M
theorem c186 (X : aX) (as : List aV) (M : aM) : cl X 186 as M = if cs as ≤ 2 then go X 186 0 (ent 2 as) [] M else none := rfl
theorem pm187 (X : aX) (pc : Nat) : pg X 187 pc = lk pc (tb187 X) := rfl
theorem e187_0 (X : aX) (la : aLs) (st : List aV) (M : aM) : go X 187 0 la st M = kC X 187 (i_lda 0 1 la st M) := evC ((pm187 X 0).trans rfl) la st M
theorem e187_1 (X : aX) (la : aLs) (st : List aV) (M : aM) : go X 187 1 la st M = kC X 187 (i_get 6 11 4 la st M) := evC ((pm187 X 1).trans rfl) la st M
theorem e187_4 (X : aX) (la : aLs) (st : List aV) (M : aM) : go X 187 4 la st M = kC X 187 (i_ci (nI 1) 5 la st M) := evC ((pm187 X 4).trans rfl) la st M
theorem e187_5 (X : aX) (la : aLs) (st : List aV) (M : aM) : go X 187 5 la st M = kC X 187 (i_cme 8 28 la st M) := evC ((pm187 X 5).trans rfl) la st M
theorem e187_8 (X : aX) (la : aLs) (st : List aV) (M : aM) : go X 187 8 la st M = kC X 187 (i_lda 0 9 la st M) := evC ((pm187 X 8).trans rfl) la st M
theorem e187_9 (X : aX) (la : aLs) (st : List aV) (M : aM) : go X 187 9 la st M = kC X 187 (i_get 6 10 12 la st M) := evC ((pm187 X 9).trans rfl) la st M
theorem e187_12 (X : aX) (la : aLs) (st : List aV) (M : aM) : go X 187 12 la st M = kC X 187 (i_lda 0 13 la st M) := evC ((pm187 X 12).trans rfl) la st M
theorem e187_13 (X : aX) (la : aLs) (st : List aV) (M : aM) : go X 187 13 la st M = kC X 187 (i_get 6 9 16 la st M) := evC ((pm187 X 13).trans rfl) la st M
theorem e187_16 (X : aX) (la : aLs) (st : List aV) (M : aM) : go X 187 16 la st M = kC X 187 (i_bin (fun x y => x - y) 17 la st M) := evC ((pm187 X 16).trans rfl) la st M
theorem e187_17 (X : aX) (la : aLs) (st : List aV) (M : aM) : go X 187 17 la st M = kC X 187 (i_lda 1 18 la st M) := evC ((pm187 X 17).trans rfl) la st M
theorem e187_18 (X : aX) (la : aLs) (st : List aV) (M : aM) : go X 187 18 la st M = kK X 187 215 1 21 100 la st M := evK ((pm187 X 18).trans rfl) la st M
theorem e187_21 (X : aX) (la : aLs) (st : List aV) (M : aM) : go X 187 21 la st M = kC X 187 (i_cme 24 28 la st M) := evC ((pm187 X 21).trans rfl) la st M
theorem e187_24 (X : aX) (la : aLs) (st : List aV) (M : aM) : go X 187 24 la st M = kC X 187 (i_ci (nI 1) 25 la st M) := evC ((pm187 X 24).trans rfl) la st M
theorem e187_25 (X : aX) (la : aLs) (st : List aV) (M : aM) : go X 187 25 la st M = kC X 187 (i_go 29 la st M) := evC ((pm187 X 25).trans rfl) la st M
theorem e187_28 (X : aX) (la : aLs) (st : List aV) (M : aM) : go X 187 28 la st M = kC X 187 (i_ci (nI 0) 29 la st M) := evC ((pm187 X 28).trans rfl) la st M
theorem e187_29 (X : aX) (la : aLs) (st : List aV) (M : aM) : go X 187 29 la st M = kC X 187 (i_sti 2 30 la st M) := evC ((pm187 X 29).trans rfl) la st M
theorem e187_30 (X : aX) (la : aLs) (st : List aV) (M : aM) : go X 187 30 la st M = kC X 187 (i_ci (nI 0) 31 la st M) := evC ((pm187 X 30).trans rfl) la st M
theorem e187_31 (X : aX) (la : aLs) (st : List aV) (M : aM) : go X 187 31 la st M = kC X 187 (i_sti 3 32 la st M) := evC ((pm187 X 31).trans rfl) la st M
theorem e187_32 (X : aX) (la : aLs) (st : List aV) (M : aM) : go X 187 32 la st M = kC X 187 (i_ldi 3 33 la st M) := evC ((pm187 X 32).trans rfl) la st M
theorem e187_33 (X : aX) (la : aLs) (st : List aV) (M : aM) : go X 187 33 la st M = kC X 187 (i_lda 1 34 la st M) := evC ((pm187 X 33).trans rfl) la st M
theorem e187_34 (X : aX) (la : aLs) (st : List aV) (M : aM) : go X 187 34 la st M = kK X 187 215 1 37 100 la st M := evK ((pm187 X 34).trans rfl) la st M
theorem e187_37 (X : aX) (la : aLs) (st : List aV) (M : aM) : go X 187 37 la st M = kC X 187 (i_cml 40 75 la st M) := evC ((pm187 X 37).trans rfl) la st M
theorem e187_40 (X : aX) (la : aLs) (st : List aV) (M : aM) : go X 187 40 la st M = kC X 187 (i_ldi 2 41 la st M) := evC ((pm187 X 40).trans rfl) la st M
theorem e187_41 (X : aX) (la : aLs) (st : List aV) (M : aM) : go X 187 41 la st M = kC X 187 (i_ife 75 44 la st M) := evC ((pm187 X 41).trans rfl) la st M
theorem e187_44 (X : aX) (la : aLs) (st : List aV) (M : aM) : go X 187 44 la st M = kC X 187 (i_lda 0 45 la st M) := evC ((pm187 X 44).trans rfl) la st M
theorem e187_45 (X : aX) (la : aLs) (st : List aV) (M : aM) : go X 187 45 la st M = kC X 187 (i_get 6 7 48 la st M) := evC ((pm187 X 45).trans rfl) la st M
theorem e187_48 (X : aX) (la : aLs) (st : List aV) (M : aM) : go X 187 48 la st M = kC X 187 (i_lda 0 49 la st M) := evC ((pm187 X 48).trans rfl) la st M
theorem e187_49 (X : aX) (la : aLs) (st : List aV) (M : aM) : go X 187 49 la st M = kC X 187 (i_get 6 9 52 la st M) := evC ((pm187 X 49).trans rfl) la st M
theorem e187_52 (X : aX) (la : aLs) (st : List aV) (M : aM) : go X 187 52 la st M = kC X 187 (i_ldi 3 53 la st M) := evC ((pm187 X 52).trans rfl) la st M
theorem e187_53 (X : aX) (la : aLs) (st : List aV) (M : aM) : go X 187 53 la st M = kC X 187 (i_bin (fun x y => x + y) 54 la st M) := evC ((pm187 X 53).trans rfl) la st M
theorem e187_54 (X : aX) (la : aLs) (st : List aV) (M : aM) : go X 187 54 la st M = kC X 187 (i_ial X 55 la st M) := evC ((pm187 X 54).trans rfl) la st M
theorem e187_55 (X : aX) (la : aLs) (st : List aV) (M : aM) : go X 187 55 la st M = kC X 187 (i_lda 1 56 la st M) := evC ((pm187 X 55).trans rfl) la st M
theorem e187_56 (X : aX) (la : aLs) (st : List aV) (M : aM) : go X 187 56 la st M = kC X 187 (i_ldi 3 57 la st M) := evC ((pm187 X 56).trans rfl) la st M
theorem e187_57 (X : aX) (la : aLs) (st : List aV) (M : aM) : go X 187 57 la st M = kK X 187 216 2 60 100 la st M := evK ((pm187 X 57).trans rfl) la st M
theorem e187_60 (X : aX) (la : aLs) (st : List aV) (M : aM) : go X 187 60 la st M = kC X 187 (i_cme 63 67 la st M) := evC ((pm187 X 60).trans rfl) la st M
theorem e187_63 (X : aX) (la : aLs) (st : List aV) (M : aM) : go X 187 63 la st M = kC X 187 (i_ci (nI 1) 64 la st M) := evC ((pm187 X 63).trans rfl) la st M
theorem e187_64 (X : aX) (la : aLs) (st : List aV) (M : aM) : go X 187 64 la st M = kC X 187 (i_go 68 la st M) := evC ((pm187 X 64).trans rfl) la st M
theorem e187_67 (X : aX) (la : aLs) (st : List aV) (M : aM) : go X 187 67 la st M = kC X 187 (i_ci (nI 0) 68 la st M) := evC ((pm187 X 67).trans rfl) la st M
theorem e187_68 (X : aX) (la : aLs) (st : List aV) (M : aM) : go X 187 68 la st M = kC X 187 (i_sti 2 69 la st M) := evC ((pm187 X 68).trans rfl) la st M
theorem e187_69 (X : aX) (la : aLs) (st : List aV) (M : aM) : go X 187 69 la st M = kC X 187 (i_inc 3 (nI 1) 72 la st M) := evC ((pm187 X 69).trans rfl) la st M
theorem e187_72 (X : aX) (la : aLs) (st : List aV) (M : aM) : go X 187 72 la st M = kC X 187 (i_go 32 la st M) := evC ((pm187 X 72).trans rfl) la st M
theorem e187_75 (X : aX) (la : aLs) (st : List aV) (M : aM) : go X 187 75 la st M = kC X 187 (i_ldi 2 76 la st M) := evC ((pm187 X 75).trans rfl) la st M
theorem e187_76 (X : aX) (la : aLs) (st : List aV) (M : aM) : go X 187 76 la st M = i_zrt st M := evR ((pm187 X 76).trans rfl) la st M
theorem c187 (X : aX) (as : List aV) (M : aM) : cl X 187 as M = if cs as ≤ 4 then go X 187 0 (ent 4 as) [] M else none := rfl
theorem pm188 (X : aX) (pc : Nat) : pg X 188 pc = lk pc (tb188 X) := rfl
theorem e188_0 (X : aX) (la : aLs) (st : List aV) (M : aM) : go X 188 0 la st M = kC X 188 (i_lda 0 1 la st M) := evC ((pm188 X 0).trans rfl) la st M
theorem e188_1 (X : aX) (la : aLs) (st : List aV) (M : aM) : go X 188 1 la st M = kC X 188 (i_lda 0 2 la st M) := evC ((pm188 X 1).trans rfl) la st M
theorem e188_2 (X : aX) (la : aLs) (st : List aV) (M : aM) : go X 188 2 la st M = kC X 188 (i_get 6 13 5 la st M) := evC ((pm188 X 2).trans rfl) la st M
theorem e188_5 (X : aX) (la : aLs) (st : List aV) (M : aM) : go X 188 5 la st M = kC X 188 (i_ife 8 12 la st M) := evC ((pm188 X 5).trans rfl) la st M
theorem e188_8 (X : aX) (la : aLs) (st : List aV) (M : aM) : go X 188 8 la st M = kC X 188 (i_ldi 1 9 la st M) := evC ((pm188 X 8).trans rfl) la st M
theorem e188_9 (X : aX) (la : aLs) (st : List aV) (M : aM) : go X 188 9 la st M = kC X 188 (i_ife 12 16 la st M) := evC ((pm188 X 9).trans rfl) la st M
theorem e188_12 (X : aX) (la : aLs) (st : List aV) (M : aM) : go X 188 12 la st M = kC X 188 (i_ci (nI 1) 13 la st M) := evC ((pm188 X 12).trans rfl) la st M
theorem e188_13 (X : aX) (la : aLs) (st : List aV) (M : aM) : go X 188 13 la st M = kC X 188 (i_go 17 la st M) := evC ((pm188 X 13).trans rfl) la st M
theorem e188_16 (X : aX) (la : aLs) (st : List aV) (M : aM) : go X 188 16 la st M = kC X 188 (i_ci (nI 0) 17 la st M) := evC ((pm188 X 16).trans rfl) la st M
theorem e188_17 (X : aX) (la : aLs) (st : List aV) (M : aM) : go X 188 17 la st M = kC X 188 (i_put 6 13 1 20 la st M) := evC ((pm188 X 17).trans rfl) la st M
theorem e188_20 (X : aX) (la : aLs) (st : List aV) (M : aM) : go X 188 20 la st M = kC X 188 (i_lda 0 21 la st M) := evC ((pm188 X 20).trans rfl) la st M
theorem e188_21 (X : aX) (la : aLs) (st : List aV) (M : aM) : go X 188 21 la st M = kC X 188 (i_get 6 13 24 la st M) := evC ((pm188 X 21).trans rfl) la st M
theorem e188_24 (X : aX) (la : aLs) (st : List aV) (M : aM) : go X 188 24 la st M = kC X 188 (i_ife 27 31 la st M) := evC ((pm188 X 24).trans rfl) la st M
theorem e188_27 (X : aX) (la : aLs) (st : List aV) (M : aM) : go X 188 27 la st M = kC X 188 (i_lda 0 28 la st M) := evC ((pm188 X 27).trans rfl) la st M
theorem e188_28 (X : aX) (la : aLs) (st : List aV) (M : aM) : go X 188 28 la st M = kK X 188 186 1 31 7 la st M := evK ((pm188 X 28).trans rfl) la st M
theorem e188_31 (X : aX) (la : aLs) (st : List aV) (M : aM) : go X 188 31 la st M = i_vrt st M := evR ((pm188 X 31).trans rfl) la st M
theorem c188 (X : aX) (as : List aV) (M : aM) : cl X 188 as M = if cs as ≤ 2 then go X 188 0 (ent 2 as) [] M else none := rfl
theorem pm189 (X : aX) (pc : Nat) : pg X 189 pc = lk pc (tb189 X) := rfl
theorem e189_0 (X : aX) (la : aLs) (st : List aV) (M : aM) : go X 189 0 la st M = kC X 189 (i_lda 0 1 la st M) := evC ((pm189 X 0).trans rfl) la st M
theorem e189_1 (X : aX) (la : aLs) (st : List aV) (M : aM) : go X 189 1 la st M = kC X 189 (i_get 6 12 4 la st M) := evC ((pm189 X 1).trans rfl) la st M
theorem e189_4 (X : aX) (la : aLs) (st : List aV) (M : aM) : go X 189 4 la st M = kC X 189 (i_sti 3 5 la st M) := evC ((pm189 X 4).trans rfl) la st M
theorem e189_5 (X : aX) (la : aLs) (st : List aV) (M : aM) : go X 189 5 la st M = kC X 189 (i_lda 0 6 la st M) := evC ((pm189 X 5).trans rfl) la st M
theorem e189_6 (X : aX) (la : aLs) (st : List aV) (M : aM) : go X 189 6 la st M = kC X 189 (i_lda 0 7 la st M) := evC ((pm189 X 6).trans rfl) la st M
theorem e189_7 (X : aX) (la : aLs) (st : List aV) (M : aM) : go X 189 7 la st M = kC X 189 (i_get 6 11 10 la st M) := evC ((pm189 X 7).trans rfl) la st M
theorem e189_10 (X : aX) (la : aLs) (st : List aV) (M : aM) : go X 189 10 la st M = kC X 189 (i_ci (nI 2) 11 la st M) := evC ((pm189 X 10).trans rfl) la st M
theorem e189_11 (X : aX) (la : aLs) (st : List aV) (M : aM) : go X 189 11 la st M = kC X 189 (i_cme 14 27 la st M) := evC ((pm189 X 11).trans rfl) la st M
theorem e189_14 (X : aX) (la : aLs) (st : List aV) (M : aM) : go X 189 14 la st M = kC X 189 (i_ldi 3 15 la st M) := evC ((pm189 X 14).trans rfl) la st M
theorem e189_15 (X : aX) (la : aLs) (st : List aV) (M : aM) : go X 189 15 la st M = kC X 189 (i_ldi 1 16 la st M) := evC ((pm189 X 15).trans rfl) la st M
theorem e189_16 (X : aX) (la : aLs) (st : List aV) (M : aM) : go X 189 16 la st M = kC X 189 (i_ldi 2 17 la st M) := evC ((pm189 X 16).trans rfl) la st M
theorem e189_17 (X : aX) (la : aLs) (st : List aV) (M : aM) : go X 189 17 la st M = kK X 189 114 3 20 0 la st M := evK ((pm189 X 17).trans rfl) la st M
theorem e189_20 (X : aX) (la : aLs) (st : List aV) (M : aM) : go X 189 20 la st M = kC X 189 (i_ife 27 23 la st M) := evC ((pm189 X 20).trans rfl) la st M
theorem e189_23 (X : aX) (la : aLs) (st : List aV) (M : aM) : go X 189 23 la st M = kC X 189 (i_ci (nI 1) 24 la st M) := evC ((pm189 X 23).trans rfl) la st M
theorem e189_24 (X : aX) (la : aLs) (st : List aV) (M : aM) : go X 189 24 la st M = kC X 189 (i_go 28 la st M) := evC ((pm189 X 24).trans rfl) la st M
theorem e189_27 (X : aX) (la : aLs) (st : List aV) (M : aM) : go X 189 27 la st M = kC X 189 (i_ci (nI 0) 28 la st M) := evC ((pm189 X 27).trans rfl) la st M
theorem e189_28 (X : aX) (la : aLs) (st : List aV) (M : aM) : go X 189 28 la st M = kK X 189 188 2 31 7 la st M := evK ((pm189 X 28).trans rfl) la st M
theorem e189_31 (X : aX) (la : aLs) (st : List aV) (M : aM) : go X 189 31 la st M = kC X 189 (i_ldi 3 32 la st M) := evC ((pm189 X 31).trans rfl) la st M
theorem e189_32 (X : aX) (la : aLs) (st : List aV) (M : aM) : go X 189 32 la st M = i_irt st M := evR ((pm189 X 32).trans rfl) la st M
theorem c189 (X : aX) (as : List aV) (M : aM) : cl X 189 as M = if cs as ≤ 4 then go X 189 0 (ent 4 as) [] M else none := rfl
theorem pm190 (X : aX) (pc : Nat) : pg X 190 pc = lk pc (tb190 X) := rfl
theorem e190_0 (X : aX) (la : aLs) (st : List aV) (M : aM) : go X 190 0 la st M = kC X 190 (i_ci (nI 6) 2 la st M) := evC ((pm190 X 0).trans rfl) la st M
theorem e190_2 (X : aX) (la : aLs) (st : List aV) (M : aM) : go X 190 2 la st M = kC X 190 (i_lda 0 3 la st M) := evC ((pm190 X 2).trans rfl) la st M
theorem e190_3 (X : aX) (la : aLs) (st : List aV) (M : aM) : go X 190 3 la st M = kC X 190 (i_get 6 16 6 la st M) := evC ((pm190 X 3).trans rfl) la st M
theorem e190_6 (X : aX) (la : aLs) (st : List aV) (M : aM) : go X 190 6 la st M = kC X 190 (i_bin (fun x y => x * y) 7 la st M) := evC ((pm190 X 6).trans rfl) la st M
theorem e190_7 (X : aX) (la : aLs) (st : List aV) (M : aM) : go X 190 7 la st M = kC X 190 (i_sti 7 9 la st M) := evC ((pm190 X 7).trans rfl) la st M
theorem e190_9 (X : aX) (la : aLs) (st : List aV) (M : aM) : go X 190 9 la st M = kC X 190 (i_lda 0 10 la st M) := evC ((pm190 X 9).trans rfl) la st M
theorem e190_10 (X : aX) (la : aLs) (st : List aV) (M : aM) : go X 190 10 la st M = kC X 190 (i_get 6 15 13 la st M) := evC ((pm190 X 10).trans rfl) la st M
theorem e190_13 (X : aX) (la : aLs) (st : List aV) (M : aM) : go X 190 13 la st M = kC X 190 (i_ldi 7 15 la st M) := evC ((pm190 X 13).trans rfl) la st M
theorem e190_15 (X : aX) (la : aLs) (st : List aV) (M : aM) : go X 190 15 la st M = kC X 190 (i_ldi 1 16 la st M) := evC ((pm190 X 15).trans rfl) la st M
theorem e190_16 (X : aX) (la : aLs) (st : List aV) (M : aM) : go X 190 16 la st M = kC X 190 (i_ias 17 la st M) := evC ((pm190 X 16).trans rfl) la st M
theorem e190_17 (X : aX) (la : aLs) (st : List aV) (M : aM) : go X 190 17 la st M = kC X 190 (i_lda 0 18 la st M) := evC ((pm190 X 17).trans rfl) la st M
theorem e190_18 (X : aX) (la : aLs) (st : List aV) (M : aM) : go X 190 18 la st M = kC X 190 (i_get 6 15 21 la st M) := evC ((pm190 X 18).trans rfl) la st M
theorem e190_21 (X : aX) (la : aLs) (st : List aV) (M : aM) : go X 190 21 la st M = kC X 190 (i_ldi 7 23 la st M) := evC ((pm190 X 21).trans rfl) la st M
theorem e190_23 (X : aX) (la : aLs) (st : List aV) (M : aM) : go X 190 23 la st M = kC X 190 (i_ci (nI 1) 24 la st M) := evC ((pm190 X 23).trans rfl) la st M
theorem e190_24 (X : aX) (la : aLs) (st : List aV) (M : aM) : go X 190 24 la st M = kC X 190 (i_bin (fun x y => x + y) 25 la st M) := evC ((pm190 X 24).trans rfl) la st M
theorem e190_25 (X : aX) (la : aLs) (st : List aV) (M : aM) : go X 190 25 la st M = kC X 190 (i_ldi 2 26 la st M) := evC ((pm190 X 25).trans rfl) la st M
theorem e190_26 (X : aX) (la : aLs) (st : List aV) (M : aM) : go X 190 26 la st M = kC X 190 (i_ias 27 la st M) := evC ((pm190 X 26).trans rfl) la st M
theorem e190_27 (X : aX) (la : aLs) (st : List aV) (M : aM) : go X 190 27 la st M = kC X 190 (i_lda 0 28 la st M) := evC ((pm190 X 27).trans rfl) la st M
theorem e190_28 (X : aX) (la : aLs) (st : List aV) (M : aM) : go X 190 28 la st M = kC X 190 (i_get 6 15 31 la st M) := evC ((pm190 X 28).trans rfl) la st M
theorem e190_31 (X : aX) (la : aLs) (st : List aV) (M : aM) : go X 190 31 la st M = kC X 190 (i_ldi 7 33 la st M) := evC ((pm190 X 31).trans rfl) la st M
theorem e190_33 (X : aX) (la : aLs) (st : List aV) (M : aM) : go X 190 33 la st M = kC X 190 (i_ci (nI 2) 34 la st M) := evC ((pm190 X 33).trans rfl) la st M
theorem e190_34 (X : aX) (la : aLs) (st : List aV) (M : aM) : go X 190 34 la st M = kC X 190 (i_bin (fun x y => x + y) 35 la st M) := evC ((pm190 X 34).trans rfl) la st M
theorem e190_35 (X : aX) (la : aLs) (st : List aV) (M : aM) : go X 190 35 la st M = kC X 190 (i_ldi 3 36 la st M) := evC ((pm190 X 35).trans rfl) la st M
theorem e190_36 (X : aX) (la : aLs) (st : List aV) (M : aM) : go X 190 36 la st M = kC X 190 (i_ias 37 la st M) := evC ((pm190 X 36).trans rfl) la st M
theorem e190_37 (X : aX) (la : aLs) (st : List aV) (M : aM) : go X 190 37 la st M = kC X 190 (i_lda 0 38 la st M) := evC ((pm190 X 37).trans rfl) la st M
theorem e190_38 (X : aX) (la : aLs) (st : List aV) (M : aM) : go X 190 38 la st M = kC X 190 (i_get 6 15 41 la st M) := evC ((pm190 X 38).trans rfl) la st M
theorem e190_41 (X : aX) (la : aLs) (st : List aV) (M : aM) : go X 190 41 la st M = kC X 190 (i_ldi 7 43 la st M) := evC ((pm190 X 41).trans rfl) la st M
theorem e190_43 (X : aX) (la : aLs) (st : List aV) (M : aM) : go X 190 43 la st M = kC X 190 (i_ci (nI 3) 44 la st M) := evC ((pm190 X 43).trans rfl) la st M
theorem e190_44 (X : aX) (la : aLs) (st : List aV) (M : aM) : go X 190 44 la st M = kC X 190 (i_bin (fun x y => x + y) 45 la st M) := evC ((pm190 X 44).trans rfl) la st M
theorem e190_45 (X : aX) (la : aLs) (st : List aV) (M : aM) : go X 190 45 la st M = kC X 190 (i_ldi 4 47 la st M) := evC ((pm190 X 45).trans rfl) la st M
theorem e190_47 (X : aX) (la : aLs) (st : List aV) (M : aM) : go X 190 47 la st M = kC X 190 (i_ias 48 la st M) := evC ((pm190 X 47).trans rfl) la st M
theorem e190_48 (X : aX) (la : aLs) (st : List aV) (M : aM) : go X 190 48 la st M = kC X 190 (i_lda 0 49 la st M) := evC ((pm190 X 48).trans rfl) la st M
theorem e190_49 (X : aX) (la : aLs) (st : List aV) (M : aM) : go X 190 49 la st M = kC X 190 (i_get 6 15 52 la st M) := evC ((pm190 X 49).trans rfl) la st M
theorem e190_52 (X : aX) (la : aLs) (st : List aV) (M : aM) : go X 190 52 la st M = kC X 190 (i_ldi 7 54 la st M) := evC ((pm190 X 52).trans rfl) la st M
theorem e190_54 (X : aX) (la : aLs) (st : List aV) (M : aM) : go X 190 54 la st M = kC X 190 (i_ci (nI 4) 55 la st M) := evC ((pm190 X 54).trans rfl) la st M
theorem e190_55 (X : aX) (la : aLs) (st : List aV) (M : aM) : go X 190 55 la st M = kC X 190 (i_bin (fun x y => x + y) 56 la st M) := evC ((pm190 X 55).trans rfl) la st M
theorem e190_56 (X : aX) (la : aLs) (st : List aV) (M : aM) : go X 190 56 la st M = kC X 190 (i_ldi 5 58 la st M) := evC ((pm190 X 56).trans rfl) la st M
theorem e190_58 (X : aX) (la : aLs) (st : List aV) (M : aM) : go X 190 58 la st M = kC X 190 (i_ias 59 la st M) := evC ((pm190 X 58).trans rfl) la st M
theorem e190_59 (X : aX) (la : aLs) (st : List aV) (M : aM) : go X 190 59 la st M = kC X 190 (i_lda 0 60 la st M) := evC ((pm190 X 59).trans rfl) la st M
theorem e190_60 (X : aX) (la : aLs) (st : List aV) (M : aM) : go X 190 60 la st M = kC X 190 (i_get 6 15 63 la st M) := evC ((pm190 X 60).trans rfl) la st M
theorem e190_63 (X : aX) (la : aLs) (st : List aV) (M : aM) : go X 190 63 la st M = kC X 190 (i_ldi 7 65 la st M) := evC ((pm190 X 63).trans rfl) la st M
theorem e190_65 (X : aX) (la : aLs) (st : List aV) (M : aM) : go X 190 65 la st M = kC X 190 (i_ci (nI 5) 66 la st M) := evC ((pm190 X 65).trans rfl) la st M
theorem e190_66 (X : aX) (la : aLs) (st : List aV) (M : aM) : go X 190 66 la st M = kC X 190 (i_bin (fun x y => x + y) 67 la st M) := evC ((pm190 X 66).trans rfl) la st M
theorem e190_67 (X : aX) (la : aLs) (st : List aV) (M : aM) : go X 190 67 la st M = kC X 190 (i_ldi 6 69 la st M) := evC ((pm190 X 67).trans rfl) la st M
theorem e190_69 (X : aX) (la : aLs) (st : List aV) (M : aM) : go X 190 69 la st M = kC X 190 (i_ias 70 la st M) := evC ((pm190 X 69).trans rfl) la st M
theorem e190_70 (X : aX) (la : aLs) (st : List aV) (M : aM) : go X 190 70 la st M = kC X 190 (i_lda 0 71 la st M) := evC ((pm190 X 70).trans rfl) la st M
theorem e190_71 (X : aX) (la : aLs) (st : List aV) (M : aM) : go X 190 71 la st M = kC X 190 (i_dup 72 la st M) := evC ((pm190 X 71).trans rfl) la st M
theorem e190_72 (X : aX) (la : aLs) (st : List aV) (M : aM) : go X 190 72 la st M = kC X 190 (i_get 6 16 75 la st M) := evC ((pm190 X 72).trans rfl) la st M
theorem e190_75 (X : aX) (la : aLs) (st : List aV) (M : aM) : go X 190 75 la st M = kC X 190 (i_ci (nI 1) 76 la st M) := evC ((pm190 X 75).trans rfl) la st M
theorem e190_76 (X : aX) (la : aLs) (st : List aV) (M : aM) : go X 190 76 la st M = kC X 190 (i_bin (fun x y => x + y) 77 la st M) := evC ((pm190 X 76).trans rfl) la st M
theorem e190_77 (X : aX) (la : aLs) (st : List aV) (M : aM) : go X 190 77 la st M = kC X 190 (i_put 6 16 0 80 la st M) := evC ((pm190 X 77).trans rfl) la st M
theorem e190_80 (X : aX) (la : aLs) (st : List aV) (M : aM) : go X 190 80 la st M = i_vrt st M := evR ((pm190 X 80).trans rfl) la st M
theorem c190 (X : aX) (as : List aV) (M : aM) : cl X 190 as M = if cs as ≤ 8 then go X 190 0 (ent 8 as) [] M else none := rfl
theorem pm191 (X : aX) (pc : Nat) : pg X 191 pc = lk pc (tb191 X) := rfl
theorem e191_0 (X : aX) (la : aLs) (st : List aV) (M : aM) : go X 191 0 la st M = kC X 191 (i_lda 0 1 la st M) := evC ((pm191 X 0).trans rfl) la st M
theorem e191_1 (X : aX) (la : aLs) (st : List aV) (M : aM) : go X 191 1 la st M = kC X 191 (i_get 6 13 4 la st M) := evC ((pm191 X 1).trans rfl) la st M
theorem e191_4 (X : aX) (la : aLs) (st : List aV) (M : aM) : go X 191 4 la st M = kC X 191 (i_ife 7 19 la st M) := evC ((pm191 X 4).trans rfl) la st M
theorem e191_7 (X : aX) (la : aLs) (st : List aV) (M : aM) : go X 191 7 la st M = kC X 191 (i_lda 0 8 la st M) := evC ((pm191 X 7).trans rfl) la st M
theorem e191_8 (X : aX) (la : aLs) (st : List aV) (M : aM) : go X 191 8 la st M = kC X 191 (i_lda 1 9 la st M) := evC ((pm191 X 8).trans rfl) la st M
theorem e191_9 (X : aX) (la : aLs) (st : List aV) (M : aM) : go X 191 9 la st M = kK X 191 187 2 12 7 la st M := evK ((pm191 X 9).trans rfl) la st M
theorem e191_12 (X : aX) (la : aLs) (st : List aV) (M : aM) : go X 191 12 la st M = kC X 191 (i_ife 19 15 la st M) := evC ((pm191 X 12).trans rfl) la st M
theorem e191_15 (X : aX) (la : aLs) (st : List aV) (M : aM) : go X 191 15 la st M = kC X 191 (i_ci (nI 1) 16 la st M) := evC ((pm191 X 15).trans rfl) la st M
theorem e191_16 (X : aX) (la : aLs) (st : List aV) (M : aM) : go X 191 16 la st M = kC X 191 (i_go 20 la st M) := evC ((pm191 X 16).trans rfl) la st M
theorem e191_19 (X : aX) (la : aLs) (st : List aV) (M : aM) : go X 191 19 la st M = kC X 191 (i_ci (nI 0) 20 la st M) := evC ((pm191 X 19).trans rfl) la st M
theorem e191_20 (X : aX) (la : aLs) (st : List aV) (M : aM) : go X 191 20 la st M = kC X 191 (i_sti 2 21 la st M) := evC ((pm191 X 20).trans rfl) la st M
theorem e191_21 (X : aX) (la : aLs) (st : List aV) (M : aM) : go X 191 21 la st M = kC X 191 (i_ldi 2 22 la st M) := evC ((pm191 X 21).trans rfl) la st M
theorem e191_22 (X : aX) (la : aLs) (st : List aV) (M : aM) : go X 191 22 la st M = kC X 191 (i_ife 30 25 la st M) := evC ((pm191 X 22).trans rfl) la st M
theorem e191_25 (X : aX) (la : aLs) (st : List aV) (M : aM) : go X 191 25 la st M = kC X 191 (i_lda 0 26 la st M) := evC ((pm191 X 25).trans rfl) la st M
theorem e191_26 (X : aX) (la : aLs) (st : List aV) (M : aM) : go X 191 26 la st M = kC X 191 (i_ci (nI 1) 27 la st M) := evC ((pm191 X 26).trans rfl) la st M
theorem e191_27 (X : aX) (la : aLs) (st : List aV) (M : aM) : go X 191 27 la st M = kK X 191 188 2 30 7 la st M := evK ((pm191 X 27).trans rfl) la st M
theorem e191_30 (X : aX) (la : aLs) (st : List aV) (M : aM) : go X 191 30 la st M = kC X 191 (i_ldi 2 31 la st M) := evC ((pm191 X 30).trans rfl) la st M
theorem e191_31 (X : aX) (la : aLs) (st : List aV) (M : aM) : go X 191 31 la st M = i_zrt st M := evR ((pm191 X 31).trans rfl) la st M
theorem c191 (X : aX) (as : List aV) (M : aM) : cl X 191 as M = if cs as ≤ 3 then go X 191 0 (ent 3 as) [] M else none := rfl
theorem pm192 (X : aX) (pc : Nat) : pg X 192 pc = lk pc (tb192 X) := rfl
theorem e192_0 (X : aX) (la : aLs) (st : List aV) (M : aM) : go X 192 0 la st M = kC X 192 (i_lda 0 1 la st M) := evC ((pm192 X 0).trans rfl) la st M
theorem e192_1 (X : aX) (la : aLs) (st : List aV) (M : aM) : go X 192 1 la st M = kC X 192 (i_lda 0 2 la st M) := evC ((pm192 X 1).trans rfl) la st M
theorem e192_2 (X : aX) (la : aLs) (st : List aV) (M : aM) : go X 192 2 la st M = kC X 192 (i_get 6 17 5 la st M) := evC ((pm192 X 2).trans rfl) la st M
theorem e192_5 (X : aX) (la : aLs) (st : List aV) (M : aM) : go X 192 5 la st M = kC X 192 (i_ci (nI 8) 7 la st M) := evC ((pm192 X 5).trans rfl) la st M
theorem e192_7 (X : aX) (la : aLs) (st : List aV) (M : aM) : go X 192 7 la st M = kC X 192 (i_cml 10 14 la st M) := evC ((pm192 X 7).trans rfl) la st M
theorem e192_10 (X : aX) (la : aLs) (st : List aV) (M : aM) : go X 192 10 la st M = kC X 192 (i_ci (nI 1) 11 la st M) := evC ((pm192 X 10).trans rfl) la st M
theorem e192_11 (X : aX) (la : aLs) (st : List aV) (M : aM) : go X 192 11 la st M = kC X 192 (i_go 15 la st M) := evC ((pm192 X 11).trans rfl) la st M
theorem e192_14 (X : aX) (la : aLs) (st : List aV) (M : aM) : go X 192 14 la st M = kC X 192 (i_ci (nI 0) 15 la st M) := evC ((pm192 X 14).trans rfl) la st M
theorem e192_15 (X : aX) (la : aLs) (st : List aV) (M : aM) : go X 192 15 la st M = kK X 192 188 2 18 7 la st M := evK ((pm192 X 15).trans rfl) la st M
theorem e192_18 (X : aX) (la : aLs) (st : List aV) (M : aM) : go X 192 18 la st M = kC X 192 (i_lda 0 19 la st M) := evC ((pm192 X 18).trans rfl) la st M
theorem e192_19 (X : aX) (la : aLs) (st : List aV) (M : aM) : go X 192 19 la st M = kC X 192 (i_ca (aR (80, 7, 0)) 22 la st M) := evC ((pm192 X 19).trans rfl) la st M
theorem e192_22 (X : aX) (la : aLs) (st : List aV) (M : aM) : go X 192 22 la st M = kK X 192 191 2 25 7 la st M := evK ((pm192 X 22).trans rfl) la st M
theorem e192_25 (X : aX) (la : aLs) (st : List aV) (M : aM) : go X 192 25 la st M = kC X 192 (i_ife 38 28 la st M) := evC ((pm192 X 25).trans rfl) la st M
theorem e192_28 (X : aX) (la : aLs) (st : List aV) (M : aM) : go X 192 28 la st M = kC X 192 (i_lda 0 29 la st M) := evC ((pm192 X 28).trans rfl) la st M
theorem e192_29 (X : aX) (la : aLs) (st : List aV) (M : aM) : go X 192 29 la st M = kC X 192 (i_ci (nI 0) 30 la st M) := evC ((pm192 X 29).trans rfl) la st M
theorem e192_30 (X : aX) (la : aLs) (st : List aV) (M : aM) : go X 192 30 la st M = kC X 192 (i_ci (nI 59) 32 la st M) := evC ((pm192 X 30).trans rfl) la st M
theorem e192_32 (X : aX) (la : aLs) (st : List aV) (M : aM) : go X 192 32 la st M = kK X 192 189 3 35 7 la st M := evK ((pm192 X 32).trans rfl) la st M
theorem e192_35 (X : aX) (la : aLs) (st : List aV) (M : aM) : go X 192 35 la st M = kC X 192 (i_go 39 la st M) := evC ((pm192 X 35).trans rfl) la st M
theorem e192_38 (X : aX) (la : aLs) (st : List aV) (M : aM) : go X 192 38 la st M = kC X 192 (i_ci (nI 0) 39 la st M) := evC ((pm192 X 38).trans rfl) la st M
theorem e192_39 (X : aX) (la : aLs) (st : List aV) (M : aM) : go X 192 39 la st M = kC X 192 (i_sti 2 40 la st M) := evC ((pm192 X 39).trans rfl) la st M
theorem e192_40 (X : aX) (la : aLs) (st : List aV) (M : aM) : go X 192 40 la st M = kC X 192 (i_lda 0 41 la st M) := evC ((pm192 X 40).trans rfl) la st M
theorem e192_41 (X : aX) (la : aLs) (st : List aV) (M : aM) : go X 192 41 la st M = kC X 192 (i_ca (aR (80, 8, 0)) 44 la st M) := evC ((pm192 X 41).trans rfl) la st M
theorem e192_44 (X : aX) (la : aLs) (st : List aV) (M : aM) : go X 192 44 la st M = kK X 192 191 2 47 7 la st M := evK ((pm192 X 44).trans rfl) la st M
theorem e192_47 (X : aX) (la : aLs) (st : List aV) (M : aM) : go X 192 47 la st M = kC X 192 (i_ife 64 50 la st M) := evC ((pm192 X 47).trans rfl) la st M
theorem e192_50 (X : aX) (la : aLs) (st : List aV) (M : aM) : go X 192 50 la st M = kC X 192 (i_lda 0 51 la st M) := evC ((pm192 X 50).trans rfl) la st M
theorem e192_51 (X : aX) (la : aLs) (st : List aV) (M : aM) : go X 192 51 la st M = kC X 192 (i_ci (nI 0) 52 la st M) := evC ((pm192 X 51).trans rfl) la st M
theorem e192_52 (X : aX) (la : aLs) (st : List aV) (M : aM) : go X 192 52 la st M = kC X 192 (i_lda 0 53 la st M) := evC ((pm192 X 52).trans rfl) la st M
theorem e192_53 (X : aX) (la : aLs) (st : List aV) (M : aM) : go X 192 53 la st M = kC X 192 (i_get 6 17 56 la st M) := evC ((pm192 X 53).trans rfl) la st M
theorem e192_56 (X : aX) (la : aLs) (st : List aV) (M : aM) : go X 192 56 la st M = kC X 192 (i_ci (nI 1) 57 la st M) := evC ((pm192 X 56).trans rfl) la st M
theorem e192_57 (X : aX) (la : aLs) (st : List aV) (M : aM) : go X 192 57 la st M = kC X 192 (i_bin (fun x y => x - y) 58 la st M) := evC ((pm192 X 57).trans rfl) la st M
theorem e192_58 (X : aX) (la : aLs) (st : List aV) (M : aM) : go X 192 58 la st M = kK X 192 189 3 61 7 la st M := evK ((pm192 X 58).trans rfl) la st M
theorem e192_61 (X : aX) (la : aLs) (st : List aV) (M : aM) : go X 192 61 la st M = kC X 192 (i_go 65 la st M) := evC ((pm192 X 61).trans rfl) la st M
theorem e192_64 (X : aX) (la : aLs) (st : List aV) (M : aM) : go X 192 64 la st M = kC X 192 (i_ci (-1) 65 la st M) := evC ((pm192 X 64).trans rfl) la st M
theorem e192_65 (X : aX) (la : aLs) (st : List aV) (M : aM) : go X 192 65 la st M = kC X 192 (i_sti 3 66 la st M) := evC ((pm192 X 65).trans rfl) la st M
theorem e192_66 (X : aX) (la : aLs) (st : List aV) (M : aM) : go X 192 66 la st M = kC X 192 (i_lda 0 67 la st M) := evC ((pm192 X 66).trans rfl) la st M
theorem e192_67 (X : aX) (la : aLs) (st : List aV) (M : aM) : go X 192 67 la st M = kC X 192 (i_ca (aR (80, 9, 0)) 70 la st M) := evC ((pm192 X 67).trans rfl) la st M
theorem e192_70 (X : aX) (la : aLs) (st : List aV) (M : aM) : go X 192 70 la st M = kK X 192 191 2 73 7 la st M := evK ((pm192 X 70).trans rfl) la st M
theorem e192_73 (X : aX) (la : aLs) (st : List aV) (M : aM) : go X 192 73 la st M = kC X 192 (i_ife 86 76 la st M) := evC ((pm192 X 73).trans rfl) la st M
theorem e192_76 (X : aX) (la : aLs) (st : List aV) (M : aM) : go X 192 76 la st M = kC X 192 (i_lda 0 77 la st M) := evC ((pm192 X 76).trans rfl) la st M
theorem e192_77 (X : aX) (la : aLs) (st : List aV) (M : aM) : go X 192 77 la st M = kC X 192 (i_ci (nI 0) 78 la st M) := evC ((pm192 X 77).trans rfl) la st M
theorem e192_78 (X : aX) (la : aLs) (st : List aV) (M : aM) : go X 192 78 la st M = kC X 192 (i_ci (nI 99) 80 la st M) := evC ((pm192 X 78).trans rfl) la st M
theorem e192_80 (X : aX) (la : aLs) (st : List aV) (M : aM) : go X 192 80 la st M = kK X 192 189 3 83 7 la st M := evK ((pm192 X 80).trans rfl) la st M
theorem e192_83 (X : aX) (la : aLs) (st : List aV) (M : aM) : go X 192 83 la st M = kC X 192 (i_go 88 la st M) := evC ((pm192 X 83).trans rfl) la st M
theorem e192_86 (X : aX) (la : aLs) (st : List aV) (M : aM) : go X 192 86 la st M = kC X 192 (i_ci (nI 60) 88 la st M) := evC ((pm192 X 86).trans rfl) la st M
theorem e192_88 (X : aX) (la : aLs) (st : List aV) (M : aM) : go X 192 88 la st M = kC X 192 (i_sti 4 90 la st M) := evC ((pm192 X 88).trans rfl) la st M
theorem e192_90 (X : aX) (la : aLs) (st : List aV) (M : aM) : go X 192 90 la st M = kC X 192 (i_lda 0 91 la st M) := evC ((pm192 X 90).trans rfl) la st M
theorem e192_91 (X : aX) (la : aLs) (st : List aV) (M : aM) : go X 192 91 la st M = kC X 192 (i_ca (aR (80, 10, 0)) 94 la st M) := evC ((pm192 X 91).trans rfl) la st M
theorem e192_94 (X : aX) (la : aLs) (st : List aV) (M : aM) : go X 192 94 la st M = kK X 192 191 2 97 7 la st M := evK ((pm192 X 94).trans rfl) la st M
theorem e192_97 (X : aX) (la : aLs) (st : List aV) (M : aM) : go X 192 97 la st M = kC X 192 (i_ife 110 100 la st M) := evC ((pm192 X 97).trans rfl) la st M
theorem e192_100 (X : aX) (la : aLs) (st : List aV) (M : aM) : go X 192 100 la st M = kC X 192 (i_lda 0 101 la st M) := evC ((pm192 X 100).trans rfl) la st M
theorem e192_101 (X : aX) (la : aLs) (st : List aV) (M : aM) : go X 192 101 la st M = kC X 192 (i_ci (nI 0) 102 la st M) := evC ((pm192 X 101).trans rfl) la st M
theorem e192_102 (X : aX) (la : aLs) (st : List aV) (M : aM) : go X 192 102 la st M = kC X 192 (i_ci (nI 120) 104 la st M) := evC ((pm192 X 102).trans rfl) la st M
theorem e192_104 (X : aX) (la : aLs) (st : List aV) (M : aM) : go X 192 104 la st M = kK X 192 189 3 107 7 la st M := evK ((pm192 X 104).trans rfl) la st M
theorem e192_107 (X : aX) (la : aLs) (st : List aV) (M : aM) : go X 192 107 la st M = kC X 192 (i_go 112 la st M) := evC ((pm192 X 107).trans rfl) la st M
theorem e192_110 (X : aX) (la : aLs) (st : List aV) (M : aM) : go X 192 110 la st M = kC X 192 (i_ci (nI 30) 112 la st M) := evC ((pm192 X 110).trans rfl) la st M
theorem e192_112 (X : aX) (la : aLs) (st : List aV) (M : aM) : go X 192 112 la st M = kC X 192 (i_sti 5 114 la st M) := evC ((pm192 X 112).trans rfl) la st M
theorem e192_114 (X : aX) (la : aLs) (st : List aV) (M : aM) : go X 192 114 la st M = kC X 192 (i_lda 0 115 la st M) := evC ((pm192 X 114).trans rfl) la st M
theorem e192_115 (X : aX) (la : aLs) (st : List aV) (M : aM) : go X 192 115 la st M = kC X 192 (i_ldi 1 116 la st M) := evC ((pm192 X 115).trans rfl) la st M
theorem e192_116 (X : aX) (la : aLs) (st : List aV) (M : aM) : go X 192 116 la st M = kC X 192 (i_ldi 2 117 la st M) := evC ((pm192 X 116).trans rfl) la st M
theorem e192_117 (X : aX) (la : aLs) (st : List aV) (M : aM) : go X 192 117 la st M = kC X 192 (i_ldi 3 118 la st M) := evC ((pm192 X 117).trans rfl) la st M
theorem e192_118 (X : aX) (la : aLs) (st : List aV) (M : aM) : go X 192 118 la st M = kC X 192 (i_ldi 4 120 la st M) := evC ((pm192 X 118).trans rfl) la st M
theorem e192_120 (X : aX) (la : aLs) (st : List aV) (M : aM) : go X 192 120 la st M = kC X 192 (i_ldi 5 122 la st M) := evC ((pm192 X 120).trans rfl) la st M
theorem e192_122 (X : aX) (la : aLs) (st : List aV) (M : aM) : go X 192 122 la st M = kC X 192 (i_lda 0 123 la st M) := evC ((pm192 X 122).trans rfl) la st M
theorem e192_123 (X : aX) (la : aLs) (st : List aV) (M : aM) : go X 192 123 la st M = kC X 192 (i_ca (aR (80, 11, 0)) 126 la st M) := evC ((pm192 X 123).trans rfl) la st M
theorem e192_126 (X : aX) (la : aLs) (st : List aV) (M : aM) : go X 192 126 la st M = kK X 192 191 2 129 7 la st M := evK ((pm192 X 126).trans rfl) la st M
theorem e192_129 (X : aX) (la : aLs) (st : List aV) (M : aM) : go X 192 129 la st M = kC X 192 (i_ife 142 132 la st M) := evC ((pm192 X 129).trans rfl) la st M
theorem e192_132 (X : aX) (la : aLs) (st : List aV) (M : aM) : go X 192 132 la st M = kC X 192 (i_lda 0 133 la st M) := evC ((pm192 X 132).trans rfl) la st M
theorem e192_133 (X : aX) (la : aLs) (st : List aV) (M : aM) : go X 192 133 la st M = kC X 192 (i_ci (nI 1) 134 la st M) := evC ((pm192 X 133).trans rfl) la st M
theorem e192_134 (X : aX) (la : aLs) (st : List aV) (M : aM) : go X 192 134 la st M = kC X 192 (i_ci (nI 9) 136 la st M) := evC ((pm192 X 134).trans rfl) la st M
theorem e192_136 (X : aX) (la : aLs) (st : List aV) (M : aM) : go X 192 136 la st M = kK X 192 189 3 139 7 la st M := evK ((pm192 X 136).trans rfl) la st M
theorem e192_139 (X : aX) (la : aLs) (st : List aV) (M : aM) : go X 192 139 la st M = kC X 192 (i_go 143 la st M) := evC ((pm192 X 139).trans rfl) la st M
theorem e192_142 (X : aX) (la : aLs) (st : List aV) (M : aM) : go X 192 142 la st M = kC X 192 (i_ci (nI 3) 143 la st M) := evC ((pm192 X 142).trans rfl) la st M
theorem e192_143 (X : aX) (la : aLs) (st : List aV) (M : aM) : go X 192 143 la st M = kK X 192 190 7 146 7 la st M := evK ((pm192 X 143).trans rfl) la st M
theorem e192_146 (X : aX) (la : aLs) (st : List aV) (M : aM) : go X 192 146 la st M = kC X 192 (i_lda 0 147 la st M) := evC ((pm192 X 146).trans rfl) la st M
theorem e192_147 (X : aX) (la : aLs) (st : List aV) (M : aM) : go X 192 147 la st M = kC X 192 (i_dup 148 la st M) := evC ((pm192 X 147).trans rfl) la st M
theorem e192_148 (X : aX) (la : aLs) (st : List aV) (M : aM) : go X 192 148 la st M = kC X 192 (i_get 6 17 151 la st M) := evC ((pm192 X 148).trans rfl) la st M
theorem e192_151 (X : aX) (la : aLs) (st : List aV) (M : aM) : go X 192 151 la st M = kC X 192 (i_ci (nI 1) 152 la st M) := evC ((pm192 X 151).trans rfl) la st M
theorem e192_152 (X : aX) (la : aLs) (st : List aV) (M : aM) : go X 192 152 la st M = kC X 192 (i_bin (fun x y => x + y) 153 la st M) := evC ((pm192 X 152).trans rfl) la st M
theorem e192_153 (X : aX) (la : aLs) (st : List aV) (M : aM) : go X 192 153 la st M = kC X 192 (i_put 6 17 0 156 la st M) := evC ((pm192 X 153).trans rfl) la st M
theorem e192_156 (X : aX) (la : aLs) (st : List aV) (M : aM) : go X 192 156 la st M = i_vrt st M := evR ((pm192 X 156).trans rfl) la st M
theorem c192 (X : aX) (as : List aV) (M : aM) : cl X 192 as M = if cs as ≤ 6 then go X 192 0 (ent 6 as) [] M else none := rfl
theorem pm193 (X : aX) (pc : Nat) : pg X 193 pc = lk pc (tb193 X) := rfl
theorem e193_0 (X : aX) (la : aLs) (st : List aV) (M : aM) : go X 193 0 la st M = kC X 193 (i_ci (-1) 1 la st M) := evC ((pm193 X 0).trans rfl) la st M
theorem e193_1 (X : aX) (la : aLs) (st : List aV) (M : aM) : go X 193 1 la st M = kC X 193 (i_sti 1 2 la st M) := evC ((pm193 X 1).trans rfl) la st M
theorem e193_2 (X : aX) (la : aLs) (st : List aV) (M : aM) : go X 193 2 la st M = kC X 193 (i_ci (nI 0) 3 la st M) := evC ((pm193 X 2).trans rfl) la st M
theorem e193_3 (X : aX) (la : aLs) (st : List aV) (M : aM) : go X 193 3 la st M = kC X 193 (i_sti 2 4 la st M) := evC ((pm193 X 3).trans rfl) la st M
theorem e193_4 (X : aX) (la : aLs) (st : List aV) (M : aM) : go X 193 4 la st M = kC X 193 (i_ldi 2 5 la st M) := evC ((pm193 X 4).trans rfl) la st M
theorem e193_5 (X : aX) (la : aLs) (st : List aV) (M : aM) : go X 193 5 la st M = kC X 193 (i_lda 0 6 la st M) := evC ((pm193 X 5).trans rfl) la st M
theorem e193_6 (X : aX) (la : aLs) (st : List aV) (M : aM) : go X 193 6 la st M = kC X 193 (i_get 6 14 9 la st M) := evC ((pm193 X 6).trans rfl) la st M
theorem e193_9 (X : aX) (la : aLs) (st : List aV) (M : aM) : go X 193 9 la st M = kC X 193 (i_aln X 10 la st M) := evC ((pm193 X 9).trans rfl) la st M
theorem e193_10 (X : aX) (la : aLs) (st : List aV) (M : aM) : go X 193 10 la st M = kC X 193 (i_cml 13 38 la st M) := evC ((pm193 X 10).trans rfl) la st M
theorem e193_13 (X : aX) (la : aLs) (st : List aV) (M : aM) : go X 193 13 la st M = kC X 193 (i_lda 0 14 la st M) := evC ((pm193 X 13).trans rfl) la st M
theorem e193_14 (X : aX) (la : aLs) (st : List aV) (M : aM) : go X 193 14 la st M = kC X 193 (i_lda 0 15 la st M) := evC ((pm193 X 14).trans rfl) la st M
theorem e193_15 (X : aX) (la : aLs) (st : List aV) (M : aM) : go X 193 15 la st M = kC X 193 (i_get 6 14 18 la st M) := evC ((pm193 X 15).trans rfl) la st M
theorem e193_18 (X : aX) (la : aLs) (st : List aV) (M : aM) : go X 193 18 la st M = kC X 193 (i_ldi 2 19 la st M) := evC ((pm193 X 18).trans rfl) la st M
theorem e193_19 (X : aX) (la : aLs) (st : List aV) (M : aM) : go X 193 19 la st M = kC X 193 (i_aal 20 la st M) := evC ((pm193 X 19).trans rfl) la st M
theorem e193_20 (X : aX) (la : aLs) (st : List aV) (M : aM) : go X 193 20 la st M = kK X 193 187 2 23 7 la st M := evK ((pm193 X 20).trans rfl) la st M
theorem e193_23 (X : aX) (la : aLs) (st : List aV) (M : aM) : go X 193 23 la st M = kC X 193 (i_ife 30 26 la st M) := evC ((pm193 X 23).trans rfl) la st M
theorem e193_26 (X : aX) (la : aLs) (st : List aV) (M : aM) : go X 193 26 la st M = kC X 193 (i_ldi 2 27 la st M) := evC ((pm193 X 26).trans rfl) la st M
theorem e193_27 (X : aX) (la : aLs) (st : List aV) (M : aM) : go X 193 27 la st M = kC X 193 (i_go 31 la st M) := evC ((pm193 X 27).trans rfl) la st M
theorem e193_30 (X : aX) (la : aLs) (st : List aV) (M : aM) : go X 193 30 la st M = kC X 193 (i_ldi 1 31 la st M) := evC ((pm193 X 30).trans rfl) la st M
theorem e193_31 (X : aX) (la : aLs) (st : List aV) (M : aM) : go X 193 31 la st M = kC X 193 (i_sti 1 32 la st M) := evC ((pm193 X 31).trans rfl) la st M
theorem e193_32 (X : aX) (la : aLs) (st : List aV) (M : aM) : go X 193 32 la st M = kC X 193 (i_inc 2 (nI 1) 35 la st M) := evC ((pm193 X 32).trans rfl) la st M
theorem e193_35 (X : aX) (la : aLs) (st : List aV) (M : aM) : go X 193 35 la st M = kC X 193 (i_go 4 la st M) := evC ((pm193 X 35).trans rfl) la st M
theorem e193_38 (X : aX) (la : aLs) (st : List aV) (M : aM) : go X 193 38 la st M = kC X 193 (i_ldi 1 39 la st M) := evC ((pm193 X 38).trans rfl) la st M
theorem e193_39 (X : aX) (la : aLs) (st : List aV) (M : aM) : go X 193 39 la st M = kC X 193 (i_ifl 50 42 la st M) := evC ((pm193 X 39).trans rfl) la st M
theorem e193_42 (X : aX) (la : aLs) (st : List aV) (M : aM) : go X 193 42 la st M = kC X 193 (i_lda 0 43 la st M) := evC ((pm193 X 42).trans rfl) la st M
theorem e193_43 (X : aX) (la : aLs) (st : List aV) (M : aM) : go X 193 43 la st M = kC X 193 (i_ldi 1 44 la st M) := evC ((pm193 X 43).trans rfl) la st M
theorem e193_44 (X : aX) (la : aLs) (st : List aV) (M : aM) : go X 193 44 la st M = kK X 193 192 2 47 7 la st M := evK ((pm193 X 44).trans rfl) la st M
theorem e193_47 (X : aX) (la : aLs) (st : List aV) (M : aM) : go X 193 47 la st M = kC X 193 (i_go 131 la st M) := evC ((pm193 X 47).trans rfl) la st M
theorem e193_50 (X : aX) (la : aLs) (st : List aV) (M : aM) : go X 193 50 la st M = kC X 193 (i_lda 0 51 la st M) := evC ((pm193 X 50).trans rfl) la st M
theorem e193_51 (X : aX) (la : aLs) (st : List aV) (M : aM) : go X 193 51 la st M = kC X 193 (i_ca (aR (80, 12, 0)) 54 la st M) := evC ((pm193 X 51).trans rfl) la st M
theorem e193_54 (X : aX) (la : aLs) (st : List aV) (M : aM) : go X 193 54 la st M = kK X 193 191 2 57 7 la st M := evK ((pm193 X 54).trans rfl) la st M
theorem e193_57 (X : aX) (la : aLs) (st : List aV) (M : aM) : go X 193 57 la st M = kC X 193 (i_ife 84 60 la st M) := evC ((pm193 X 57).trans rfl) la st M
theorem e193_60 (X : aX) (la : aLs) (st : List aV) (M : aM) : go X 193 60 la st M = kC X 193 (i_lda 0 61 la st M) := evC ((pm193 X 60).trans rfl) la st M
theorem e193_61 (X : aX) (la : aLs) (st : List aV) (M : aM) : go X 193 61 la st M = kC X 193 (i_ci (nI 10) 63 la st M) := evC ((pm193 X 61).trans rfl) la st M
theorem e193_63 (X : aX) (la : aLs) (st : List aV) (M : aM) : go X 193 63 la st M = kC X 193 (i_lda 0 64 la st M) := evC ((pm193 X 63).trans rfl) la st M
theorem e193_64 (X : aX) (la : aLs) (st : List aV) (M : aM) : go X 193 64 la st M = kC X 193 (i_ci (nI 0) 65 la st M) := evC ((pm193 X 64).trans rfl) la st M
theorem e193_65 (X : aX) (la : aLs) (st : List aV) (M : aM) : go X 193 65 la st M = kC X 193 (i_lda 0 66 la st M) := evC ((pm193 X 65).trans rfl) la st M
theorem e193_66 (X : aX) (la : aLs) (st : List aV) (M : aM) : go X 193 66 la st M = kC X 193 (i_get 6 17 69 la st M) := evC ((pm193 X 66).trans rfl) la st M
theorem e193_69 (X : aX) (la : aLs) (st : List aV) (M : aM) : go X 193 69 la st M = kC X 193 (i_ci (nI 1) 70 la st M) := evC ((pm193 X 69).trans rfl) la st M
theorem e193_70 (X : aX) (la : aLs) (st : List aV) (M : aM) : go X 193 70 la st M = kC X 193 (i_bin (fun x y => x - y) 71 la st M) := evC ((pm193 X 70).trans rfl) la st M
theorem e193_71 (X : aX) (la : aLs) (st : List aV) (M : aM) : go X 193 71 la st M = kK X 193 189 3 74 7 la st M := evK ((pm193 X 71).trans rfl) la st M
theorem e193_74 (X : aX) (la : aLs) (st : List aV) (M : aM) : go X 193 74 la st M = kC X 193 (i_ci (nI 0) 75 la st M) := evC ((pm193 X 74).trans rfl) la st M
theorem e193_75 (X : aX) (la : aLs) (st : List aV) (M : aM) : go X 193 75 la st M = kC X 193 (i_ci (nI 0) 76 la st M) := evC ((pm193 X 75).trans rfl) la st M
theorem e193_76 (X : aX) (la : aLs) (st : List aV) (M : aM) : go X 193 76 la st M = kC X 193 (i_ci (nI 0) 77 la st M) := evC ((pm193 X 76).trans rfl) la st M
theorem e193_77 (X : aX) (la : aLs) (st : List aV) (M : aM) : go X 193 77 la st M = kC X 193 (i_ci (nI 0) 78 la st M) := evC ((pm193 X 77).trans rfl) la st M
theorem e193_78 (X : aX) (la : aLs) (st : List aV) (M : aM) : go X 193 78 la st M = kK X 193 190 7 81 7 la st M := evK ((pm193 X 78).trans rfl) la st M
theorem e193_81 (X : aX) (la : aLs) (st : List aV) (M : aM) : go X 193 81 la st M = kC X 193 (i_go 131 la st M) := evC ((pm193 X 81).trans rfl) la st M
theorem e193_84 (X : aX) (la : aLs) (st : List aV) (M : aM) : go X 193 84 la st M = kC X 193 (i_lda 0 85 la st M) := evC ((pm193 X 84).trans rfl) la st M
theorem e193_85 (X : aX) (la : aLs) (st : List aV) (M : aM) : go X 193 85 la st M = kC X 193 (i_ca (aR (80, 13, 0)) 88 la st M) := evC ((pm193 X 85).trans rfl) la st M
theorem e193_88 (X : aX) (la : aLs) (st : List aV) (M : aM) : go X 193 88 la st M = kK X 193 191 2 91 7 la st M := evK ((pm193 X 88).trans rfl) la st M
theorem e193_91 (X : aX) (la : aLs) (st : List aV) (M : aM) : go X 193 91 la st M = kC X 193 (i_ife 126 94 la st M) := evC ((pm193 X 91).trans rfl) la st M
theorem e193_94 (X : aX) (la : aLs) (st : List aV) (M : aM) : go X 193 94 la st M = kC X 193 (i_lda 0 95 la st M) := evC ((pm193 X 94).trans rfl) la st M
theorem e193_95 (X : aX) (la : aLs) (st : List aV) (M : aM) : go X 193 95 la st M = kC X 193 (i_ci (nI 0) 96 la st M) := evC ((pm193 X 95).trans rfl) la st M
theorem e193_96 (X : aX) (la : aLs) (st : List aV) (M : aM) : go X 193 96 la st M = kC X 193 (i_lda 0 97 la st M) := evC ((pm193 X 96).trans rfl) la st M
theorem e193_97 (X : aX) (la : aLs) (st : List aV) (M : aM) : go X 193 97 la st M = kC X 193 (i_get 6 17 100 la st M) := evC ((pm193 X 97).trans rfl) la st M
theorem e193_100 (X : aX) (la : aLs) (st : List aV) (M : aM) : go X 193 100 la st M = kC X 193 (i_ci (nI 1) 101 la st M) := evC ((pm193 X 100).trans rfl) la st M
theorem e193_101 (X : aX) (la : aLs) (st : List aV) (M : aM) : go X 193 101 la st M = kC X 193 (i_bin (fun x y => x - y) 102 la st M) := evC ((pm193 X 101).trans rfl) la st M
theorem e193_102 (X : aX) (la : aLs) (st : List aV) (M : aM) : go X 193 102 la st M = kK X 193 189 3 105 7 la st M := evK ((pm193 X 102).trans rfl) la st M
theorem e193_105 (X : aX) (la : aLs) (st : List aV) (M : aM) : go X 193 105 la st M = kC X 193 (i_sti 2 106 la st M) := evC ((pm193 X 105).trans rfl) la st M
theorem e193_106 (X : aX) (la : aLs) (st : List aV) (M : aM) : go X 193 106 la st M = kC X 193 (i_lda 0 107 la st M) := evC ((pm193 X 106).trans rfl) la st M
theorem e193_107 (X : aX) (la : aLs) (st : List aV) (M : aM) : go X 193 107 la st M = kC X 193 (i_ci (nI 11) 109 la st M) := evC ((pm193 X 107).trans rfl) la st M
theorem e193_109 (X : aX) (la : aLs) (st : List aV) (M : aM) : go X 193 109 la st M = kC X 193 (i_ldi 2 110 la st M) := evC ((pm193 X 109).trans rfl) la st M
theorem e193_110 (X : aX) (la : aLs) (st : List aV) (M : aM) : go X 193 110 la st M = kC X 193 (i_lda 0 111 la st M) := evC ((pm193 X 110).trans rfl) la st M
theorem e193_111 (X : aX) (la : aLs) (st : List aV) (M : aM) : go X 193 111 la st M = kC X 193 (i_ci (nI 1) 112 la st M) := evC ((pm193 X 111).trans rfl) la st M
theorem e193_112 (X : aX) (la : aLs) (st : List aV) (M : aM) : go X 193 112 la st M = kC X 193 (i_ci (nI 99) 114 la st M) := evC ((pm193 X 112).trans rfl) la st M
theorem e193_114 (X : aX) (la : aLs) (st : List aV) (M : aM) : go X 193 114 la st M = kK X 193 189 3 117 7 la st M := evK ((pm193 X 114).trans rfl) la st M
theorem e193_117 (X : aX) (la : aLs) (st : List aV) (M : aM) : go X 193 117 la st M = kC X 193 (i_ci (nI 0) 118 la st M) := evC ((pm193 X 117).trans rfl) la st M
theorem e193_118 (X : aX) (la : aLs) (st : List aV) (M : aM) : go X 193 118 la st M = kC X 193 (i_ci (nI 0) 119 la st M) := evC ((pm193 X 118).trans rfl) la st M
theorem e193_119 (X : aX) (la : aLs) (st : List aV) (M : aM) : go X 193 119 la st M = kC X 193 (i_ci (nI 0) 120 la st M) := evC ((pm193 X 119).trans rfl) la st M
theorem e193_120 (X : aX) (la : aLs) (st : List aV) (M : aM) : go X 193 120 la st M = kK X 193 190 7 123 7 la st M := evK ((pm193 X 120).trans rfl) la st M
theorem e193_123 (X : aX) (la : aLs) (st : List aV) (M : aM) : go X 193 123 la st M = kC X 193 (i_go 131 la st M) := evC ((pm193 X 123).trans rfl) la st M
theorem e193_126 (X : aX) (la : aLs) (st : List aV) (M : aM) : go X 193 126 la st M = kC X 193 (i_lda 0 127 la st M) := evC ((pm193 X 126).trans rfl) la st M
theorem e193_127 (X : aX) (la : aLs) (st : List aV) (M : aM) : go X 193 127 la st M = kC X 193 (i_ci (nI 0) 128 la st M) := evC ((pm193 X 127).trans rfl) la st M
theorem e193_128 (X : aX) (la : aLs) (st : List aV) (M : aM) : go X 193 128 la st M = kK X 193 188 2 131 7 la st M := evK ((pm193 X 128).trans rfl) la st M
theorem e193_131 (X : aX) (la : aLs) (st : List aV) (M : aM) : go X 193 131 la st M = i_vrt st M := evR ((pm193 X 131).trans rfl) la st M
theorem c193 (X : aX) (as : List aV) (M : aM) : cl X 193 as M = if cs as ≤ 3 then go X 193 0 (ent 3 as) [] M else none := rfl
theorem pm194 (X : aX) (pc : Nat) : pg X 194 pc = lk pc (tb194 X) := rfl
theorem e194_0 (X : aX) (la : aLs) (st : List aV) (M : aM) : go X 194 0 la st M = kC X 194 (i_lda 0 1 la st M) := evC ((pm194 X 0).trans rfl) la st M
theorem e194_1 (X : aX) (la : aLs) (st : List aV) (M : aM) : go X 194 1 la st M = kC X 194 (i_get 6 15 4 la st M) := evC ((pm194 X 1).trans rfl) la st M
theorem e194_4 (X : aX) (la : aLs) (st : List aV) (M : aM) : go X 194 4 la st M = kC X 194 (i_ldi 1 5 la st M) := evC ((pm194 X 4).trans rfl) la st M
theorem e194_5 (X : aX) (la : aLs) (st : List aV) (M : aM) : go X 194 5 la st M = kC X 194 (i_ci (nI 1) 6 la st M) := evC ((pm194 X 5).trans rfl) la st M
theorem e194_6 (X : aX) (la : aLs) (st : List aV) (M : aM) : go X 194 6 la st M = kC X 194 (i_bin (fun x y => x + y) 7 la st M) := evC ((pm194 X 6).trans rfl) la st M
theorem e194_7 (X : aX) (la : aLs) (st : List aV) (M : aM) : go X 194 7 la st M = kC X 194 (i_ial X 8 la st M) := evC ((pm194 X 7).trans rfl) la st M
theorem e194_8 (X : aX) (la : aLs) (st : List aV) (M : aM) : go X 194 8 la st M = kC X 194 (i_sti 2 9 la st M) := evC ((pm194 X 8).trans rfl) la st M
theorem e194_9 (X : aX) (la : aLs) (st : List aV) (M : aM) : go X 194 9 la st M = kC X 194 (i_lda 0 10 la st M) := evC ((pm194 X 9).trans rfl) la st M
theorem e194_10 (X : aX) (la : aLs) (st : List aV) (M : aM) : go X 194 10 la st M = kC X 194 (i_get 6 15 13 la st M) := evC ((pm194 X 10).trans rfl) la st M
theorem e194_13 (X : aX) (la : aLs) (st : List aV) (M : aM) : go X 194 13 la st M = kC X 194 (i_ldi 1 14 la st M) := evC ((pm194 X 13).trans rfl) la st M
theorem e194_14 (X : aX) (la : aLs) (st : List aV) (M : aM) : go X 194 14 la st M = kC X 194 (i_ial X 15 la st M) := evC ((pm194 X 14).trans rfl) la st M
theorem e194_15 (X : aX) (la : aLs) (st : List aV) (M : aM) : go X 194 15 la st M = kC X 194 (i_sw [(nI 10, 40), (nI 11, 55)] 77 la st M) := evC ((pm194 X 15).trans rfl) la st M
theorem e194_40 (X : aX) (la : aLs) (st : List aV) (M : aM) : go X 194 40 la st M = kC X 194 (i_lda 0 41 la st M) := evC ((pm194 X 40).trans rfl) la st M
theorem e194_41 (X : aX) (la : aLs) (st : List aV) (M : aM) : go X 194 41 la st M = kC X 194 (i_get 6 0 44 la st M) := evC ((pm194 X 41).trans rfl) la st M
theorem e194_44 (X : aX) (la : aLs) (st : List aV) (M : aM) : go X 194 44 la st M = kC X 194 (i_ldi 2 45 la st M) := evC ((pm194 X 44).trans rfl) la st M
theorem e194_45 (X : aX) (la : aLs) (st : List aV) (M : aM) : go X 194 45 la st M = kC X 194 (i_ci (nI 6) 47 la st M) := evC ((pm194 X 45).trans rfl) la st M
theorem e194_47 (X : aX) (la : aLs) (st : List aV) (M : aM) : go X 194 47 la st M = kK X 194 121 2 50 0 la st M := evK ((pm194 X 47).trans rfl) la st M
theorem e194_50 (X : aX) (la : aLs) (st : List aV) (M : aM) : go X 194 50 la st M = kC X 194 (i_ci (nI 1) 51 la st M) := evC ((pm194 X 50).trans rfl) la st M
theorem e194_51 (X : aX) (la : aLs) (st : List aV) (M : aM) : go X 194 51 la st M = kC X 194 (i_ias 52 la st M) := evC ((pm194 X 51).trans rfl) la st M
theorem e194_52 (X : aX) (la : aLs) (st : List aV) (M : aM) : go X 194 52 la st M = kC X 194 (i_go 161 la st M) := evC ((pm194 X 52).trans rfl) la st M
theorem e194_55 (X : aX) (la : aLs) (st : List aV) (M : aM) : go X 194 55 la st M = kC X 194 (i_lda 0 56 la st M) := evC ((pm194 X 55).trans rfl) la st M
theorem e194_56 (X : aX) (la : aLs) (st : List aV) (M : aM) : go X 194 56 la st M = kC X 194 (i_get 6 0 59 la st M) := evC ((pm194 X 56).trans rfl) la st M
theorem e194_59 (X : aX) (la : aLs) (st : List aV) (M : aM) : go X 194 59 la st M = kC X 194 (i_ldi 2 60 la st M) := evC ((pm194 X 59).trans rfl) la st M
theorem e194_60 (X : aX) (la : aLs) (st : List aV) (M : aM) : go X 194 60 la st M = kC X 194 (i_ci (nI 7) 62 la st M) := evC ((pm194 X 60).trans rfl) la st M
theorem e194_62 (X : aX) (la : aLs) (st : List aV) (M : aM) : go X 194 62 la st M = kK X 194 121 2 65 0 la st M := evK ((pm194 X 62).trans rfl) la st M
theorem e194_65 (X : aX) (la : aLs) (st : List aV) (M : aM) : go X 194 65 la st M = kC X 194 (i_lda 0 66 la st M) := evC ((pm194 X 65).trans rfl) la st M
theorem e194_66 (X : aX) (la : aLs) (st : List aV) (M : aM) : go X 194 66 la st M = kC X 194 (i_get 6 15 69 la st M) := evC ((pm194 X 66).trans rfl) la st M
theorem e194_69 (X : aX) (la : aLs) (st : List aV) (M : aM) : go X 194 69 la st M = kC X 194 (i_ldi 1 70 la st M) := evC ((pm194 X 69).trans rfl) la st M
theorem e194_70 (X : aX) (la : aLs) (st : List aV) (M : aM) : go X 194 70 la st M = kC X 194 (i_ci (nI 2) 71 la st M) := evC ((pm194 X 70).trans rfl) la st M
theorem e194_71 (X : aX) (la : aLs) (st : List aV) (M : aM) : go X 194 71 la st M = kC X 194 (i_bin (fun x y => x + y) 72 la st M) := evC ((pm194 X 71).trans rfl) la st M
theorem e194_72 (X : aX) (la : aLs) (st : List aV) (M : aM) : go X 194 72 la st M = kC X 194 (i_ial X 73 la st M) := evC ((pm194 X 72).trans rfl) la st M
theorem e194_73 (X : aX) (la : aLs) (st : List aV) (M : aM) : go X 194 73 la st M = kC X 194 (i_ias 74 la st M) := evC ((pm194 X 73).trans rfl) la st M
theorem e194_74 (X : aX) (la : aLs) (st : List aV) (M : aM) : go X 194 74 la st M = kC X 194 (i_go 161 la st M) := evC ((pm194 X 74).trans rfl) la st M
theorem e194_77 (X : aX) (la : aLs) (st : List aV) (M : aM) : go X 194 77 la st M = kC X 194 (i_lda 0 78 la st M) := evC ((pm194 X 77).trans rfl) la st M
theorem e194_78 (X : aX) (la : aLs) (st : List aV) (M : aM) : go X 194 78 la st M = kC X 194 (i_lda 0 79 la st M) := evC ((pm194 X 78).trans rfl) la st M
theorem e194_79 (X : aX) (la : aLs) (st : List aV) (M : aM) : go X 194 79 la st M = kC X 194 (i_get 6 15 82 la st M) := evC ((pm194 X 79).trans rfl) la st M
theorem e194_82 (X : aX) (la : aLs) (st : List aV) (M : aM) : go X 194 82 la st M = kC X 194 (i_ldi 1 83 la st M) := evC ((pm194 X 82).trans rfl) la st M
theorem e194_83 (X : aX) (la : aLs) (st : List aV) (M : aM) : go X 194 83 la st M = kC X 194 (i_ial X 84 la st M) := evC ((pm194 X 83).trans rfl) la st M
theorem e194_84 (X : aX) (la : aLs) (st : List aV) (M : aM) : go X 194 84 la st M = kC X 194 (i_ldi 2 85 la st M) := evC ((pm194 X 84).trans rfl) la st M
theorem e194_85 (X : aX) (la : aLs) (st : List aV) (M : aM) : go X 194 85 la st M = kK X 194 125 3 88 7 la st M := evK ((pm194 X 85).trans rfl) la st M
theorem e194_88 (X : aX) (la : aLs) (st : List aV) (M : aM) : go X 194 88 la st M = kC X 194 (i_sti 3 89 la st M) := evC ((pm194 X 88).trans rfl) la st M
theorem e194_89 (X : aX) (la : aLs) (st : List aV) (M : aM) : go X 194 89 la st M = kC X 194 (i_lda 0 90 la st M) := evC ((pm194 X 89).trans rfl) la st M
theorem e194_90 (X : aX) (la : aLs) (st : List aV) (M : aM) : go X 194 90 la st M = kC X 194 (i_get 6 0 93 la st M) := evC ((pm194 X 90).trans rfl) la st M
theorem e194_93 (X : aX) (la : aLs) (st : List aV) (M : aM) : go X 194 93 la st M = kC X 194 (i_ldi 3 94 la st M) := evC ((pm194 X 93).trans rfl) la st M
theorem e194_94 (X : aX) (la : aLs) (st : List aV) (M : aM) : go X 194 94 la st M = kC X 194 (i_ci (nI 2) 95 la st M) := evC ((pm194 X 94).trans rfl) la st M
theorem e194_95 (X : aX) (la : aLs) (st : List aV) (M : aM) : go X 194 95 la st M = kK X 194 121 2 98 0 la st M := evK ((pm194 X 95).trans rfl) la st M
theorem e194_98 (X : aX) (la : aLs) (st : List aV) (M : aM) : go X 194 98 la st M = kC X 194 (i_lda 0 99 la st M) := evC ((pm194 X 98).trans rfl) la st M
theorem e194_99 (X : aX) (la : aLs) (st : List aV) (M : aM) : go X 194 99 la st M = kC X 194 (i_get 6 15 102 la st M) := evC ((pm194 X 99).trans rfl) la st M
theorem e194_102 (X : aX) (la : aLs) (st : List aV) (M : aM) : go X 194 102 la st M = kC X 194 (i_ldi 1 103 la st M) := evC ((pm194 X 102).trans rfl) la st M
theorem e194_103 (X : aX) (la : aLs) (st : List aV) (M : aM) : go X 194 103 la st M = kC X 194 (i_ci (nI 2) 104 la st M) := evC ((pm194 X 103).trans rfl) la st M
theorem e194_104 (X : aX) (la : aLs) (st : List aV) (M : aM) : go X 194 104 la st M = kC X 194 (i_bin (fun x y => x + y) 105 la st M) := evC ((pm194 X 104).trans rfl) la st M
theorem e194_105 (X : aX) (la : aLs) (st : List aV) (M : aM) : go X 194 105 la st M = kC X 194 (i_ial X 106 la st M) := evC ((pm194 X 105).trans rfl) la st M
theorem e194_106 (X : aX) (la : aLs) (st : List aV) (M : aM) : go X 194 106 la st M = kC X 194 (i_ias 107 la st M) := evC ((pm194 X 106).trans rfl) la st M
theorem e194_107 (X : aX) (la : aLs) (st : List aV) (M : aM) : go X 194 107 la st M = kC X 194 (i_lda 0 108 la st M) := evC ((pm194 X 107).trans rfl) la st M
theorem e194_108 (X : aX) (la : aLs) (st : List aV) (M : aM) : go X 194 108 la st M = kC X 194 (i_get 6 0 111 la st M) := evC ((pm194 X 108).trans rfl) la st M
theorem e194_111 (X : aX) (la : aLs) (st : List aV) (M : aM) : go X 194 111 la st M = kC X 194 (i_ldi 3 112 la st M) := evC ((pm194 X 111).trans rfl) la st M
theorem e194_112 (X : aX) (la : aLs) (st : List aV) (M : aM) : go X 194 112 la st M = kC X 194 (i_ci (nI 3) 113 la st M) := evC ((pm194 X 112).trans rfl) la st M
theorem e194_113 (X : aX) (la : aLs) (st : List aV) (M : aM) : go X 194 113 la st M = kK X 194 121 2 116 0 la st M := evK ((pm194 X 113).trans rfl) la st M
theorem e194_116 (X : aX) (la : aLs) (st : List aV) (M : aM) : go X 194 116 la st M = kC X 194 (i_lda 0 117 la st M) := evC ((pm194 X 116).trans rfl) la st M
theorem e194_117 (X : aX) (la : aLs) (st : List aV) (M : aM) : go X 194 117 la st M = kC X 194 (i_get 6 15 120 la st M) := evC ((pm194 X 117).trans rfl) la st M
theorem e194_120 (X : aX) (la : aLs) (st : List aV) (M : aM) : go X 194 120 la st M = kC X 194 (i_ldi 1 121 la st M) := evC ((pm194 X 120).trans rfl) la st M
theorem e194_121 (X : aX) (la : aLs) (st : List aV) (M : aM) : go X 194 121 la st M = kC X 194 (i_ci (nI 3) 122 la st M) := evC ((pm194 X 121).trans rfl) la st M
theorem e194_122 (X : aX) (la : aLs) (st : List aV) (M : aM) : go X 194 122 la st M = kC X 194 (i_bin (fun x y => x + y) 123 la st M) := evC ((pm194 X 122).trans rfl) la st M
theorem e194_123 (X : aX) (la : aLs) (st : List aV) (M : aM) : go X 194 123 la st M = kC X 194 (i_ial X 124 la st M) := evC ((pm194 X 123).trans rfl) la st M
theorem e194_124 (X : aX) (la : aLs) (st : List aV) (M : aM) : go X 194 124 la st M = kC X 194 (i_ias 125 la st M) := evC ((pm194 X 124).trans rfl) la st M
theorem e194_125 (X : aX) (la : aLs) (st : List aV) (M : aM) : go X 194 125 la st M = kC X 194 (i_lda 0 126 la st M) := evC ((pm194 X 125).trans rfl) la st M
theorem e194_126 (X : aX) (la : aLs) (st : List aV) (M : aM) : go X 194 126 la st M = kC X 194 (i_get 6 0 129 la st M) := evC ((pm194 X 126).trans rfl) la st M
theorem e194_129 (X : aX) (la : aLs) (st : List aV) (M : aM) : go X 194 129 la st M = kC X 194 (i_ldi 3 130 la st M) := evC ((pm194 X 129).trans rfl) la st M
theorem e194_130 (X : aX) (la : aLs) (st : List aV) (M : aM) : go X 194 130 la st M = kC X 194 (i_ci (nI 4) 131 la st M) := evC ((pm194 X 130).trans rfl) la st M
theorem e194_131 (X : aX) (la : aLs) (st : List aV) (M : aM) : go X 194 131 la st M = kK X 194 121 2 134 0 la st M := evK ((pm194 X 131).trans rfl) la st M
theorem e194_134 (X : aX) (la : aLs) (st : List aV) (M : aM) : go X 194 134 la st M = kC X 194 (i_lda 0 135 la st M) := evC ((pm194 X 134).trans rfl) la st M
theorem e194_135 (X : aX) (la : aLs) (st : List aV) (M : aM) : go X 194 135 la st M = kC X 194 (i_get 6 15 138 la st M) := evC ((pm194 X 135).trans rfl) la st M
theorem e194_138 (X : aX) (la : aLs) (st : List aV) (M : aM) : go X 194 138 la st M = kC X 194 (i_ldi 1 139 la st M) := evC ((pm194 X 138).trans rfl) la st M
theorem e194_139 (X : aX) (la : aLs) (st : List aV) (M : aM) : go X 194 139 la st M = kC X 194 (i_ci (nI 4) 140 la st M) := evC ((pm194 X 139).trans rfl) la st M
theorem e194_140 (X : aX) (la : aLs) (st : List aV) (M : aM) : go X 194 140 la st M = kC X 194 (i_bin (fun x y => x + y) 141 la st M) := evC ((pm194 X 140).trans rfl) la st M
theorem e194_141 (X : aX) (la : aLs) (st : List aV) (M : aM) : go X 194 141 la st M = kC X 194 (i_ial X 142 la st M) := evC ((pm194 X 141).trans rfl) la st M
theorem e194_142 (X : aX) (la : aLs) (st : List aV) (M : aM) : go X 194 142 la st M = kC X 194 (i_ias 143 la st M) := evC ((pm194 X 142).trans rfl) la st M
theorem e194_143 (X : aX) (la : aLs) (st : List aV) (M : aM) : go X 194 143 la st M = kC X 194 (i_lda 0 144 la st M) := evC ((pm194 X 143).trans rfl) la st M
theorem e194_144 (X : aX) (la : aLs) (st : List aV) (M : aM) : go X 194 144 la st M = kC X 194 (i_get 6 0 147 la st M) := evC ((pm194 X 144).trans rfl) la st M
theorem e194_147 (X : aX) (la : aLs) (st : List aV) (M : aM) : go X 194 147 la st M = kC X 194 (i_ldi 3 148 la st M) := evC ((pm194 X 147).trans rfl) la st M
theorem e194_148 (X : aX) (la : aLs) (st : List aV) (M : aM) : go X 194 148 la st M = kC X 194 (i_ci (nI 5) 149 la st M) := evC ((pm194 X 148).trans rfl) la st M
theorem e194_149 (X : aX) (la : aLs) (st : List aV) (M : aM) : go X 194 149 la st M = kK X 194 121 2 152 0 la st M := evK ((pm194 X 149).trans rfl) la st M
theorem e194_152 (X : aX) (la : aLs) (st : List aV) (M : aM) : go X 194 152 la st M = kC X 194 (i_lda 0 153 la st M) := evC ((pm194 X 152).trans rfl) la st M
theorem e194_153 (X : aX) (la : aLs) (st : List aV) (M : aM) : go X 194 153 la st M = kC X 194 (i_get 6 15 156 la st M) := evC ((pm194 X 153).trans rfl) la st M
theorem e194_156 (X : aX) (la : aLs) (st : List aV) (M : aM) : go X 194 156 la st M = kC X 194 (i_ldi 1 157 la st M) := evC ((pm194 X 156).trans rfl) la st M
theorem e194_157 (X : aX) (la : aLs) (st : List aV) (M : aM) : go X 194 157 la st M = kC X 194 (i_ci (nI 5) 158 la st M) := evC ((pm194 X 157).trans rfl) la st M
theorem e194_158 (X : aX) (la : aLs) (st : List aV) (M : aM) : go X 194 158 la st M = kC X 194 (i_bin (fun x y => x + y) 159 la st M) := evC ((pm194 X 158).trans rfl) la st M
theorem e194_159 (X : aX) (la : aLs) (st : List aV) (M : aM) : go X 194 159 la st M = kC X 194 (i_ial X 160 la st M) := evC ((pm194 X 159).trans rfl) la st M
theorem e194_160 (X : aX) (la : aLs) (st : List aV) (M : aM) : go X 194 160 la st M = kC X 194 (i_ias 161 la st M) := evC ((pm194 X 160).trans rfl) la st M
theorem e194_161 (X : aX) (la : aLs) (st : List aV) (M : aM) : go X 194 161 la st M = i_vrt st M := evR ((pm194 X 161).trans rfl) la st M
theorem c194 (X : aX) (as : List aV) (M : aM) : cl X 194 as M = if cs as ≤ 4 then go X 194 0 (ent 4 as) [] M else none := rfl
theorem pm195 (X : aX) (pc : Nat) : pg X 195 pc = lk pc (tb195 X) := rfl
theorem e195_0 (X : aX) (la : aLs) (st : List aV) (M : aM) : go X 195 0 la st M = kC X 195 (i_lda 0 1 la st M) := evC ((pm195 X 0).trans rfl) la st M
theorem e195_1 (X : aX) (la : aLs) (st : List aV) (M : aM) : go X 195 1 la st M = kC X 195 (i_ci (nI 0) 2 la st M) := evC ((pm195 X 1).trans rfl) la st M
theorem e195_2 (X : aX) (la : aLs) (st : List aV) (M : aM) : go X 195 2 la st M = kC X 195 (i_put 6 10 0 5 la st M) := evC ((pm195 X 2).trans rfl) la st M
theorem e195_5 (X : aX) (la : aLs) (st : List aV) (M : aM) : go X 195 5 la st M = kC X 195 (i_lda 0 6 la st M) := evC ((pm195 X 5).trans rfl) la st M
theorem e195_6 (X : aX) (la : aLs) (st : List aV) (M : aM) : go X 195 6 la st M = kC X 195 (i_ci (nI 0) 7 la st M) := evC ((pm195 X 6).trans rfl) la st M
theorem e195_7 (X : aX) (la : aLs) (st : List aV) (M : aM) : go X 195 7 la st M = kC X 195 (i_put 6 13 1 10 la st M) := evC ((pm195 X 7).trans rfl) la st M
theorem e195_10 (X : aX) (la : aLs) (st : List aV) (M : aM) : go X 195 10 la st M = kC X 195 (i_lda 0 11 la st M) := evC ((pm195 X 10).trans rfl) la st M
theorem e195_11 (X : aX) (la : aLs) (st : List aV) (M : aM) : go X 195 11 la st M = kC X 195 (i_ci (nI 0) 12 la st M) := evC ((pm195 X 11).trans rfl) la st M
theorem e195_12 (X : aX) (la : aLs) (st : List aV) (M : aM) : go X 195 12 la st M = kC X 195 (i_put 6 16 0 15 la st M) := evC ((pm195 X 12).trans rfl) la st M
theorem e195_15 (X : aX) (la : aLs) (st : List aV) (M : aM) : go X 195 15 la st M = kC X 195 (i_lda 0 16 la st M) := evC ((pm195 X 15).trans rfl) la st M
theorem e195_16 (X : aX) (la : aLs) (st : List aV) (M : aM) : go X 195 16 la st M = kC X 195 (i_lda 0 17 la st M) := evC ((pm195 X 16).trans rfl) la st M
theorem e195_17 (X : aX) (la : aLs) (st : List aV) (M : aM) : go X 195 17 la st M = kC X 195 (i_get 6 0 20 la st M) := evC ((pm195 X 17).trans rfl) la st M
theorem e195_20 (X : aX) (la : aLs) (st : List aV) (M : aM) : go X 195 20 la st M = kC X 195 (i_ci (nI 1) 21 la st M) := evC ((pm195 X 20).trans rfl) la st M
theorem e195_21 (X : aX) (la : aLs) (st : List aV) (M : aM) : go X 195 21 la st M = kC X 195 (i_ial X 22 la st M) := evC ((pm195 X 21).trans rfl) la st M
theorem e195_22 (X : aX) (la : aLs) (st : List aV) (M : aM) : go X 195 22 la st M = kC X 195 (i_put 6 17 0 25 la st M) := evC ((pm195 X 22).trans rfl) la st M
theorem e195_25 (X : aX) (la : aLs) (st : List aV) (M : aM) : go X 195 25 la st M = kC X 195 (i_lda 0 26 la st M) := evC ((pm195 X 25).trans rfl) la st M
theorem e195_26 (X : aX) (la : aLs) (st : List aV) (M : aM) : go X 195 26 la st M = kK X 195 186 1 29 7 la st M := evK ((pm195 X 26).trans rfl) la st M
theorem e195_29 (X : aX) (la : aLs) (st : List aV) (M : aM) : go X 195 29 la st M = kC X 195 (i_lda 0 30 la st M) := evC ((pm195 X 29).trans rfl) la st M
theorem e195_30 (X : aX) (la : aLs) (st : List aV) (M : aM) : go X 195 30 la st M = kK X 195 193 1 33 7 la st M := evK ((pm195 X 30).trans rfl) la st M
theorem e195_33 (X : aX) (la : aLs) (st : List aV) (M : aM) : go X 195 33 la st M = kC X 195 (i_lda 0 34 la st M) := evC ((pm195 X 33).trans rfl) la st M
theorem e195_34 (X : aX) (la : aLs) (st : List aV) (M : aM) : go X 195 34 la st M = kC X 195 (i_get 6 13 37 la st M) := evC ((pm195 X 34).trans rfl) la st M
theorem e195_37 (X : aX) (la : aLs) (st : List aV) (M : aM) : go X 195 37 la st M = kC X 195 (i_ife 40 74 la st M) := evC ((pm195 X 37).trans rfl) la st M
theorem e195_40 (X : aX) (la : aLs) (st : List aV) (M : aM) : go X 195 40 la st M = kC X 195 (i_lda 0 41 la st M) := evC ((pm195 X 40).trans rfl) la st M
theorem e195_41 (X : aX) (la : aLs) (st : List aV) (M : aM) : go X 195 41 la st M = kC X 195 (i_get 6 11 44 la st M) := evC ((pm195 X 41).trans rfl) la st M
theorem e195_44 (X : aX) (la : aLs) (st : List aV) (M : aM) : go X 195 44 la st M = kC X 195 (i_ci (nI 3) 45 la st M) := evC ((pm195 X 44).trans rfl) la st M
theorem e195_45 (X : aX) (la : aLs) (st : List aV) (M : aM) : go X 195 45 la st M = kC X 195 (i_cme 48 74 la st M) := evC ((pm195 X 45).trans rfl) la st M
theorem e195_48 (X : aX) (la : aLs) (st : List aV) (M : aM) : go X 195 48 la st M = kC X 195 (i_lda 0 49 la st M) := evC ((pm195 X 48).trans rfl) la st M
theorem e195_49 (X : aX) (la : aLs) (st : List aV) (M : aM) : go X 195 49 la st M = kC X 195 (i_get 6 7 52 la st M) := evC ((pm195 X 49).trans rfl) la st M
theorem e195_52 (X : aX) (la : aLs) (st : List aV) (M : aM) : go X 195 52 la st M = kC X 195 (i_lda 0 53 la st M) := evC ((pm195 X 52).trans rfl) la st M
theorem e195_53 (X : aX) (la : aLs) (st : List aV) (M : aM) : go X 195 53 la st M = kC X 195 (i_get 6 9 56 la st M) := evC ((pm195 X 53).trans rfl) la st M
theorem e195_56 (X : aX) (la : aLs) (st : List aV) (M : aM) : go X 195 56 la st M = kC X 195 (i_ial X 57 la st M) := evC ((pm195 X 56).trans rfl) la st M
theorem e195_57 (X : aX) (la : aLs) (st : List aV) (M : aM) : go X 195 57 la st M = kC X 195 (i_ci (nI 59) 59 la st M) := evC ((pm195 X 57).trans rfl) la st M
theorem e195_59 (X : aX) (la : aLs) (st : List aV) (M : aM) : go X 195 59 la st M = kC X 195 (i_cme 62 74 la st M) := evC ((pm195 X 59).trans rfl) la st M
theorem e195_62 (X : aX) (la : aLs) (st : List aV) (M : aM) : go X 195 62 la st M = kC X 195 (i_lda 0 63 la st M) := evC ((pm195 X 62).trans rfl) la st M
theorem e195_63 (X : aX) (la : aLs) (st : List aV) (M : aM) : go X 195 63 la st M = kC X 195 (i_ci (nI 1) 64 la st M) := evC ((pm195 X 63).trans rfl) la st M
theorem e195_64 (X : aX) (la : aLs) (st : List aV) (M : aM) : go X 195 64 la st M = kK X 195 188 2 67 7 la st M := evK ((pm195 X 64).trans rfl) la st M
theorem e195_67 (X : aX) (la : aLs) (st : List aV) (M : aM) : go X 195 67 la st M = kC X 195 (i_lda 0 68 la st M) := evC ((pm195 X 67).trans rfl) la st M
theorem e195_68 (X : aX) (la : aLs) (st : List aV) (M : aM) : go X 195 68 la st M = kK X 195 193 1 71 7 la st M := evK ((pm195 X 68).trans rfl) la st M
theorem e195_71 (X : aX) (la : aLs) (st : List aV) (M : aM) : go X 195 71 la st M = kC X 195 (i_go 33 la st M) := evC ((pm195 X 71).trans rfl) la st M
theorem e195_74 (X : aX) (la : aLs) (st : List aV) (M : aM) : go X 195 74 la st M = kC X 195 (i_lda 0 75 la st M) := evC ((pm195 X 74).trans rfl) la st M
theorem e195_75 (X : aX) (la : aLs) (st : List aV) (M : aM) : go X 195 75 la st M = kC X 195 (i_lda 0 76 la st M) := evC ((pm195 X 75).trans rfl) la st M
theorem e195_76 (X : aX) (la : aLs) (st : List aV) (M : aM) : go X 195 76 la st M = kC X 195 (i_get 6 11 79 la st M) := evC ((pm195 X 76).trans rfl) la st M
theorem e195_79 (X : aX) (la : aLs) (st : List aV) (M : aM) : go X 195 79 la st M = kC X 195 (i_ife 82 86 la st M) := evC ((pm195 X 79).trans rfl) la st M
theorem e195_82 (X : aX) (la : aLs) (st : List aV) (M : aM) : go X 195 82 la st M = kC X 195 (i_ci (nI 1) 83 la st M) := evC ((pm195 X 82).trans rfl) la st M
theorem e195_83 (X : aX) (la : aLs) (st : List aV) (M : aM) : go X 195 83 la st M = kC X 195 (i_go 87 la st M) := evC ((pm195 X 83).trans rfl) la st M
theorem e195_86 (X : aX) (la : aLs) (st : List aV) (M : aM) : go X 195 86 la st M = kC X 195 (i_ci (nI 0) 87 la st M) := evC ((pm195 X 86).trans rfl) la st M
theorem e195_87 (X : aX) (la : aLs) (st : List aV) (M : aM) : go X 195 87 la st M = kK X 195 188 2 90 7 la st M := evK ((pm195 X 87).trans rfl) la st M
theorem e195_90 (X : aX) (la : aLs) (st : List aV) (M : aM) : go X 195 90 la st M = kC X 195 (i_lda 0 91 la st M) := evC ((pm195 X 90).trans rfl) la st M
theorem e195_91 (X : aX) (la : aLs) (st : List aV) (M : aM) : go X 195 91 la st M = kC X 195 (i_ci (nI 0) 92 la st M) := evC ((pm195 X 91).trans rfl) la st M
theorem e195_92 (X : aX) (la : aLs) (st : List aV) (M : aM) : go X 195 92 la st M = kC X 195 (i_put 6 8 0 95 la st M) := evC ((pm195 X 92).trans rfl) la st M
theorem e195_95 (X : aX) (la : aLs) (st : List aV) (M : aM) : go X 195 95 la st M = kC X 195 (i_lda 0 96 la st M) := evC ((pm195 X 95).trans rfl) la st M
theorem e195_96 (X : aX) (la : aLs) (st : List aV) (M : aM) : go X 195 96 la st M = kC X 195 (i_get 6 13 99 la st M) := evC ((pm195 X 96).trans rfl) la st M
theorem e195_99 (X : aX) (la : aLs) (st : List aV) (M : aM) : go X 195 99 la st M = kC X 195 (i_ife 109 102 la st M) := evC ((pm195 X 99).trans rfl) la st M
theorem e195_102 (X : aX) (la : aLs) (st : List aV) (M : aM) : go X 195 102 la st M = kC X 195 (i_ci (-1) 103 la st M) := evC ((pm195 X 102).trans rfl) la st M
theorem e195_103 (X : aX) (la : aLs) (st : List aV) (M : aM) : go X 195 103 la st M = kC X 195 (i_lda 0 104 la st M) := evC ((pm195 X 103).trans rfl) la st M
theorem e195_104 (X : aX) (la : aLs) (st : List aV) (M : aM) : go X 195 104 la st M = kC X 195 (i_get 6 9 107 la st M) := evC ((pm195 X 104).trans rfl) la st M
theorem e195_107 (X : aX) (la : aLs) (st : List aV) (M : aM) : go X 195 107 la st M = kC X 195 (i_bin (fun x y => x - y) 108 la st M) := evC ((pm195 X 107).trans rfl) la st M
theorem e195_108 (X : aX) (la : aLs) (st : List aV) (M : aM) : go X 195 108 la st M = i_irt st M := evR ((pm195 X 108).trans rfl) la st M
theorem e195_109 (X : aX) (la : aLs) (st : List aV) (M : aM) : go X 195 109 la st M = kC X 195 (i_ci (nI 0) 110 la st M) := evC ((pm195 X 109).trans rfl) la st M
theorem e195_110 (X : aX) (la : aLs) (st : List aV) (M : aM) : go X 195 110 la st M = kC X 195 (i_sti 1 111 la st M) := evC ((pm195 X 110).trans rfl) la st M
theorem e195_111 (X : aX) (la : aLs) (st : List aV) (M : aM) : go X 195 111 la st M = kC X 195 (i_ldi 1 112 la st M) := evC ((pm195 X 111).trans rfl) la st M
theorem e195_112 (X : aX) (la : aLs) (st : List aV) (M : aM) : go X 195 112 la st M = kC X 195 (i_lda 0 113 la st M) := evC ((pm195 X 112).trans rfl) la st M
theorem e195_113 (X : aX) (la : aLs) (st : List aV) (M : aM) : go X 195 113 la st M = kC X 195 (i_get 6 16 116 la st M) := evC ((pm195 X 113).trans rfl) la st M
theorem e195_116 (X : aX) (la : aLs) (st : List aV) (M : aM) : go X 195 116 la st M = kC X 195 (i_cml 119 133 la st M) := evC ((pm195 X 116).trans rfl) la st M
theorem e195_119 (X : aX) (la : aLs) (st : List aV) (M : aM) : go X 195 119 la st M = kC X 195 (i_lda 0 120 la st M) := evC ((pm195 X 119).trans rfl) la st M
theorem e195_120 (X : aX) (la : aLs) (st : List aV) (M : aM) : go X 195 120 la st M = kC X 195 (i_ci (nI 6) 122 la st M) := evC ((pm195 X 120).trans rfl) la st M
theorem e195_122 (X : aX) (la : aLs) (st : List aV) (M : aM) : go X 195 122 la st M = kC X 195 (i_ldi 1 123 la st M) := evC ((pm195 X 122).trans rfl) la st M
theorem e195_123 (X : aX) (la : aLs) (st : List aV) (M : aM) : go X 195 123 la st M = kC X 195 (i_bin (fun x y => x * y) 124 la st M) := evC ((pm195 X 123).trans rfl) la st M
theorem e195_124 (X : aX) (la : aLs) (st : List aV) (M : aM) : go X 195 124 la st M = kK X 195 194 2 127 7 la st M := evK ((pm195 X 124).trans rfl) la st M
theorem e195_127 (X : aX) (la : aLs) (st : List aV) (M : aM) : go X 195 127 la st M = kC X 195 (i_inc 1 (nI 1) 130 la st M) := evC ((pm195 X 127).trans rfl) la st M
theorem e195_130 (X : aX) (la : aLs) (st : List aV) (M : aM) : go X 195 130 la st M = kC X 195 (i_go 111 la st M) := evC ((pm195 X 130).trans rfl) la st M
theorem e195_133 (X : aX) (la : aLs) (st : List aV) (M : aM) : go X 195 133 la st M = kC X 195 (i_lda 0 134 la st M) := evC ((pm195 X 133).trans rfl) la st M
theorem e195_134 (X : aX) (la : aLs) (st : List aV) (M : aM) : go X 195 134 la st M = kC X 195 (i_get 6 16 137 la st M) := evC ((pm195 X 134).trans rfl) la st M
theorem e195_137 (X : aX) (la : aLs) (st : List aV) (M : aM) : go X 195 137 la st M = i_irt st M := evR ((pm195 X 137).trans rfl) la st M
theorem c195 (X : aX) (as : List aV) (M : aM) : cl X 195 as M = if cs as ≤ 2 then go X 195 0 (ent 2 as) [] M else none := rfl
theorem pm196 (X : aX) (pc : Nat) : pg X 196 pc = lk pc (tb196 X) := rfl
theorem e196_0 (X : aX) (la : aLs) (st : List aV) (M : aM) : go X 196 0 la st M = kC X 196 (i_ldi 0 1 la st M) := evC ((pm196 X 0).trans rfl) la st M
theorem e196_1 (X : aX) (la : aLs) (st : List aV) (M : aM) : go X 196 1 la st M = kC X 196 (i_ci (nI 0) 2 la st M) := evC ((pm196 X 1).trans rfl) la st M
theorem e196_2 (X : aX) (la : aLs) (st : List aV) (M : aM) : go X 196 2 la st M = kC X 196 (i_ci (nI 9) 4 la st M) := evC ((pm196 X 2).trans rfl) la st M
theorem e196_4 (X : aX) (la : aLs) (st : List aV) (M : aM) : go X 196 4 la st M = kK X 196 114 3 7 0 la st M := evK ((pm196 X 4).trans rfl) la st M
theorem e196_7 (X : aX) (la : aLs) (st : List aV) (M : aM) : go X 196 7 la st M = i_zrt st M := evR ((pm196 X 7).trans rfl) la st M
theorem c196 (X : aX) (as : List aV) (M : aM) : cl X 196 as M = if cs as ≤ 1 then go X 196 0 (ent 1 as) [] M else none := rfl
theorem pm197 (X : aX) (pc : Nat) : pg X 197 pc = lk pc (tb197 X) := rfl
theorem e197_0 (X : aX) (la : aLs) (st : List aV) (M : aM) : go X 197 0 la st M = kC X 197 (i_ldi 1 1 la st M) := evC ((pm197 X 0).trans rfl) la st M
theorem e197_1 (X : aX) (la : aLs) (st : List aV) (M : aM) : go X 197 1 la st M = kK X 197 196 1 4 0 la st M := evK ((pm197 X 1).trans rfl) la st M
theorem e197_4 (X : aX) (la : aLs) (st : List aV) (M : aM) : go X 197 4 la st M = kC X 197 (i_ife 20 7 la st M) := evC ((pm197 X 4).trans rfl) la st M
theorem e197_7 (X : aX) (la : aLs) (st : List aV) (M : aM) : go X 197 7 la st M = kC X 197 (i_ldi 2 8 la st M) := evC ((pm197 X 7).trans rfl) la st M
theorem e197_8 (X : aX) (la : aLs) (st : List aV) (M : aM) : go X 197 8 la st M = kC X 197 (i_ci (-1) 9 la st M) := evC ((pm197 X 8).trans rfl) la st M
theorem e197_9 (X : aX) (la : aLs) (st : List aV) (M : aM) : go X 197 9 la st M = kC X 197 (i_cme 27 12 la st M) := evC ((pm197 X 9).trans rfl) la st M
theorem e197_12 (X : aX) (la : aLs) (st : List aV) (M : aM) : go X 197 12 la st M = kC X 197 (i_lda 0 13 la st M) := evC ((pm197 X 12).trans rfl) la st M
theorem e197_13 (X : aX) (la : aLs) (st : List aV) (M : aM) : go X 197 13 la st M = kC X 197 (i_ldi 2 14 la st M) := evC ((pm197 X 13).trans rfl) la st M
theorem e197_14 (X : aX) (la : aLs) (st : List aV) (M : aM) : go X 197 14 la st M = kK X 197 123 2 17 7 la st M := evK ((pm197 X 14).trans rfl) la st M
theorem e197_17 (X : aX) (la : aLs) (st : List aV) (M : aM) : go X 197 17 la st M = kC X 197 (i_ife 20 27 la st M) := evC ((pm197 X 17).trans rfl) la st M
theorem e197_20 (X : aX) (la : aLs) (st : List aV) (M : aM) : go X 197 20 la st M = kC X 197 (i_lda 0 21 la st M) := evC ((pm197 X 20).trans rfl) la st M
theorem e197_21 (X : aX) (la : aLs) (st : List aV) (M : aM) : go X 197 21 la st M = kC X 197 (i_ci (-1000001) 23 la st M) := evC ((pm197 X 21).trans rfl) la st M
theorem e197_23 (X : aX) (la : aLs) (st : List aV) (M : aM) : go X 197 23 la st M = kK X 197 113 2 26 7 la st M := evK ((pm197 X 23).trans rfl) la st M
theorem e197_26 (X : aX) (la : aLs) (st : List aV) (M : aM) : go X 197 26 la st M = i_irt st M := evR ((pm197 X 26).trans rfl) la st M
theorem e197_27 (X : aX) (la : aLs) (st : List aV) (M : aM) : go X 197 27 la st M = kC X 197 (i_lda 0 28 la st M) := evC ((pm197 X 27).trans rfl) la st M
theorem e197_28 (X : aX) (la : aLs) (st : List aV) (M : aM) : go X 197 28 la st M = kC X 197 (i_get 6 0 31 la st M) := evC ((pm197 X 28).trans rfl) la st M
theorem e197_31 (X : aX) (la : aLs) (st : List aV) (M : aM) : go X 197 31 la st M = kC X 197 (i_ci (nI 4) 32 la st M) := evC ((pm197 X 31).trans rfl) la st M
theorem e197_32 (X : aX) (la : aLs) (st : List aV) (M : aM) : go X 197 32 la st M = kC X 197 (i_ldi 1 33 la st M) := evC ((pm197 X 32).trans rfl) la st M
theorem e197_33 (X : aX) (la : aLs) (st : List aV) (M : aM) : go X 197 33 la st M = kC X 197 (i_bin (fun x y => x + y) 34 la st M) := evC ((pm197 X 33).trans rfl) la st M
theorem e197_34 (X : aX) (la : aLs) (st : List aV) (M : aM) : go X 197 34 la st M = kC X 197 (i_ldi 2 35 la st M) := evC ((pm197 X 34).trans rfl) la st M
theorem e197_35 (X : aX) (la : aLs) (st : List aV) (M : aM) : go X 197 35 la st M = kC X 197 (i_ias 36 la st M) := evC ((pm197 X 35).trans rfl) la st M
theorem e197_36 (X : aX) (la : aLs) (st : List aV) (M : aM) : go X 197 36 la st M = kC X 197 (i_ci (nI 1) 37 la st M) := evC ((pm197 X 36).trans rfl) la st M
theorem e197_37 (X : aX) (la : aLs) (st : List aV) (M : aM) : go X 197 37 la st M = i_irt st M := evR ((pm197 X 37).trans rfl) la st M
theorem c197 (X : aX) (as : List aV) (M : aM) : cl X 197 as M = if cs as ≤ 3 then go X 197 0 (ent 3 as) [] M else none := rfl
theorem pm198 (X : aX) (pc : Nat) : pg X 198 pc = lk pc (tb198 X) := rfl
theorem e198_0 (X : aX) (la : aLs) (st : List aV) (M : aM) : go X 198 0 la st M = kC X 198 (i_ldi 1 1 la st M) := evC ((pm198 X 0).trans rfl) la st M
theorem e198_1 (X : aX) (la : aLs) (st : List aV) (M : aM) : go X 198 1 la st M = kK X 198 196 1 4 0 la st M := evK ((pm198 X 1).trans rfl) la st M
theorem e198_4 (X : aX) (la : aLs) (st : List aV) (M : aM) : go X 198 4 la st M = kC X 198 (i_ife 14 7 la st M) := evC ((pm198 X 4).trans rfl) la st M
theorem e198_7 (X : aX) (la : aLs) (st : List aV) (M : aM) : go X 198 7 la st M = kC X 198 (i_ldi 2 8 la st M) := evC ((pm198 X 7).trans rfl) la st M
theorem e198_8 (X : aX) (la : aLs) (st : List aV) (M : aM) : go X 198 8 la st M = kK X 198 124 1 11 0 la st M := evK ((pm198 X 8).trans rfl) la st M
theorem e198_11 (X : aX) (la : aLs) (st : List aV) (M : aM) : go X 198 11 la st M = kC X 198 (i_ife 14 21 la st M) := evC ((pm198 X 11).trans rfl) la st M
theorem e198_14 (X : aX) (la : aLs) (st : List aV) (M : aM) : go X 198 14 la st M = kC X 198 (i_lda 0 15 la st M) := evC ((pm198 X 14).trans rfl) la st M
theorem e198_15 (X : aX) (la : aLs) (st : List aV) (M : aM) : go X 198 15 la st M = kC X 198 (i_ci (-1000001) 17 la st M) := evC ((pm198 X 15).trans rfl) la st M
theorem e198_17 (X : aX) (la : aLs) (st : List aV) (M : aM) : go X 198 17 la st M = kK X 198 113 2 20 7 la st M := evK ((pm198 X 17).trans rfl) la st M
theorem e198_20 (X : aX) (la : aLs) (st : List aV) (M : aM) : go X 198 20 la st M = i_irt st M := evR ((pm198 X 20).trans rfl) la st M
theorem e198_21 (X : aX) (la : aLs) (st : List aV) (M : aM) : go X 198 21 la st M = kC X 198 (i_lda 0 22 la st M) := evC ((pm198 X 21).trans rfl) la st M
theorem e198_22 (X : aX) (la : aLs) (st : List aV) (M : aM) : go X 198 22 la st M = kC X 198 (i_get 6 0 25 la st M) := evC ((pm198 X 22).trans rfl) la st M
theorem e198_25 (X : aX) (la : aLs) (st : List aV) (M : aM) : go X 198 25 la st M = kC X 198 (i_ci (nI 4) 26 la st M) := evC ((pm198 X 25).trans rfl) la st M
theorem e198_26 (X : aX) (la : aLs) (st : List aV) (M : aM) : go X 198 26 la st M = kC X 198 (i_ldi 1 27 la st M) := evC ((pm198 X 26).trans rfl) la st M
theorem e198_27 (X : aX) (la : aLs) (st : List aV) (M : aM) : go X 198 27 la st M = kC X 198 (i_bin (fun x y => x + y) 28 la st M) := evC ((pm198 X 27).trans rfl) la st M
theorem e198_28 (X : aX) (la : aLs) (st : List aV) (M : aM) : go X 198 28 la st M = kC X 198 (i_ial X 29 la st M) := evC ((pm198 X 28).trans rfl) la st M
theorem e198_29 (X : aX) (la : aLs) (st : List aV) (M : aM) : go X 198 29 la st M = kC X 198 (i_sti 3 30 la st M) := evC ((pm198 X 29).trans rfl) la st M
theorem e198_30 (X : aX) (la : aLs) (st : List aV) (M : aM) : go X 198 30 la st M = kC X 198 (i_ldi 3 31 la st M) := evC ((pm198 X 30).trans rfl) la st M
theorem e198_31 (X : aX) (la : aLs) (st : List aV) (M : aM) : go X 198 31 la st M = kC X 198 (i_ifl 34 41 la st M) := evC ((pm198 X 31).trans rfl) la st M
theorem e198_34 (X : aX) (la : aLs) (st : List aV) (M : aM) : go X 198 34 la st M = kC X 198 (i_lda 0 35 la st M) := evC ((pm198 X 34).trans rfl) la st M
theorem e198_35 (X : aX) (la : aLs) (st : List aV) (M : aM) : go X 198 35 la st M = kC X 198 (i_ci (-1000006) 37 la st M) := evC ((pm198 X 35).trans rfl) la st M
theorem e198_37 (X : aX) (la : aLs) (st : List aV) (M : aM) : go X 198 37 la st M = kK X 198 113 2 40 7 la st M := evK ((pm198 X 37).trans rfl) la st M
theorem e198_40 (X : aX) (la : aLs) (st : List aV) (M : aM) : go X 198 40 la st M = i_irt st M := evR ((pm198 X 40).trans rfl) la st M
theorem e198_41 (X : aX) (la : aLs) (st : List aV) (M : aM) : go X 198 41 la st M = kC X 198 (i_lda 0 42 la st M) := evC ((pm198 X 41).trans rfl) la st M
theorem e198_42 (X : aX) (la : aLs) (st : List aV) (M : aM) : go X 198 42 la st M = kC X 198 (i_ldi 3 43 la st M) := evC ((pm198 X 42).trans rfl) la st M
theorem e198_43 (X : aX) (la : aLs) (st : List aV) (M : aM) : go X 198 43 la st M = kC X 198 (i_ci (nI 0) 44 la st M) := evC ((pm198 X 43).trans rfl) la st M
theorem e198_44 (X : aX) (la : aLs) (st : List aV) (M : aM) : go X 198 44 la st M = kK X 198 122 3 47 7 la st M := evK ((pm198 X 44).trans rfl) la st M
theorem e198_47 (X : aX) (la : aLs) (st : List aV) (M : aM) : go X 198 47 la st M = kC X 198 (i_ldi 2 48 la st M) := evC ((pm198 X 47).trans rfl) la st M
theorem e198_48 (X : aX) (la : aLs) (st : List aV) (M : aM) : go X 198 48 la st M = kK X 198 205 2 51 0 la st M := evK ((pm198 X 48).trans rfl) la st M
theorem e198_51 (X : aX) (la : aLs) (st : List aV) (M : aM) : go X 198 51 la st M = kC X 198 (i_ife 58 54 la st M) := evC ((pm198 X 51).trans rfl) la st M
theorem e198_54 (X : aX) (la : aLs) (st : List aV) (M : aM) : go X 198 54 la st M = kC X 198 (i_ldi 3 55 la st M) := evC ((pm198 X 54).trans rfl) la st M
theorem e198_55 (X : aX) (la : aLs) (st : List aV) (M : aM) : go X 198 55 la st M = kC X 198 (i_go 65 la st M) := evC ((pm198 X 55).trans rfl) la st M
theorem e198_58 (X : aX) (la : aLs) (st : List aV) (M : aM) : go X 198 58 la st M = kC X 198 (i_lda 0 59 la st M) := evC ((pm198 X 58).trans rfl) la st M
theorem e198_59 (X : aX) (la : aLs) (st : List aV) (M : aM) : go X 198 59 la st M = kC X 198 (i_ci (-1000003) 62 la st M) := evC ((pm198 X 59).trans rfl) la st M
theorem e198_62 (X : aX) (la : aLs) (st : List aV) (M : aM) : go X 198 62 la st M = kK X 198 113 2 65 7 la st M := evK ((pm198 X 62).trans rfl) la st M
theorem e198_65 (X : aX) (la : aLs) (st : List aV) (M : aM) : go X 198 65 la st M = i_irt st M := evR ((pm198 X 65).trans rfl) la st M
theorem c198 (X : aX) (as : List aV) (M : aM) : cl X 198 as M = if cs as ≤ 4 then go X 198 0 (ent 4 as) [] M else none := rfl
theorem pm199 (X : aX) (pc : Nat) : pg X 199 pc = lk pc (tb199 X) := rfl
theorem e199_0 (X : aX) (la : aLs) (st : List aV) (M : aM) : go X 199 0 la st M = kC X 199 (i_ldi 0 1 la st M) := evC ((pm199 X 0).trans rfl) la st M
theorem e199_1 (X : aX) (la : aLs) (st : List aV) (M : aM) : go X 199 1 la st M = kC X 199 (i_ci (nI 0) 2 la st M) := evC ((pm199 X 1).trans rfl) la st M
theorem e199_2 (X : aX) (la : aLs) (st : List aV) (M : aM) : go X 199 2 la st M = kC X 199 (i_ci (nI 3) 3 la st M) := evC ((pm199 X 2).trans rfl) la st M
theorem e199_3 (X : aX) (la : aLs) (st : List aV) (M : aM) : go X 199 3 la st M = kK X 199 114 3 6 0 la st M := evK ((pm199 X 3).trans rfl) la st M
theorem e199_6 (X : aX) (la : aLs) (st : List aV) (M : aM) : go X 199 6 la st M = i_zrt st M := evR ((pm199 X 6).trans rfl) la st M
theorem c199 (X : aX) (as : List aV) (M : aM) : cl X 199 as M = if cs as ≤ 1 then go X 199 0 (ent 1 as) [] M else none := rfl
theorem pm200 (X : aX) (pc : Nat) : pg X 200 pc = lk pc (tb200 X) := rfl
theorem e200_0 (X : aX) (la : aLs) (st : List aV) (M : aM) : go X 200 0 la st M = kC X 200 (i_ldi 1 1 la st M) := evC ((pm200 X 0).trans rfl) la st M
theorem e200_1 (X : aX) (la : aLs) (st : List aV) (M : aM) : go X 200 1 la st M = kC X 200 (i_ci (nI 8) 3 la st M) := evC ((pm200 X 1).trans rfl) la st M
theorem e200_3 (X : aX) (la : aLs) (st : List aV) (M : aM) : go X 200 3 la st M = kC X 200 (i_cme 6 11 la st M) := evC ((pm200 X 3).trans rfl) la st M
theorem e200_6 (X : aX) (la : aLs) (st : List aV) (M : aM) : go X 200 6 la st M = kC X 200 (i_ldi 0 7 la st M) := evC ((pm200 X 6).trans rfl) la st M
theorem e200_7 (X : aX) (la : aLs) (st : List aV) (M : aM) : go X 200 7 la st M = kC X 200 (i_un (fun x => x.toInt8.toInt32) 8 la st M) := evC ((pm200 X 7).trans rfl) la st M
theorem e200_8 (X : aX) (la : aLs) (st : List aV) (M : aM) : go X 200 8 la st M = kC X 200 (i_go 23 la st M) := evC ((pm200 X 8).trans rfl) la st M
theorem e200_11 (X : aX) (la : aLs) (st : List aV) (M : aM) : go X 200 11 la st M = kC X 200 (i_ldi 1 12 la st M) := evC ((pm200 X 11).trans rfl) la st M
theorem e200_12 (X : aX) (la : aLs) (st : List aV) (M : aM) : go X 200 12 la st M = kC X 200 (i_ci (nI 16) 14 la st M) := evC ((pm200 X 12).trans rfl) la st M
theorem e200_14 (X : aX) (la : aLs) (st : List aV) (M : aM) : go X 200 14 la st M = kC X 200 (i_cme 17 22 la st M) := evC ((pm200 X 14).trans rfl) la st M
theorem e200_17 (X : aX) (la : aLs) (st : List aV) (M : aM) : go X 200 17 la st M = kC X 200 (i_ldi 0 18 la st M) := evC ((pm200 X 17).trans rfl) la st M
theorem e200_18 (X : aX) (la : aLs) (st : List aV) (M : aM) : go X 200 18 la st M = kC X 200 (i_un (fun x => x.toInt16.toInt32) 19 la st M) := evC ((pm200 X 18).trans rfl) la st M
theorem e200_19 (X : aX) (la : aLs) (st : List aV) (M : aM) : go X 200 19 la st M = kC X 200 (i_go 23 la st M) := evC ((pm200 X 19).trans rfl) la st M
theorem e200_22 (X : aX) (la : aLs) (st : List aV) (M : aM) : go X 200 22 la st M = kC X 200 (i_ldi 0 23 la st M) := evC ((pm200 X 22).trans rfl) la st M
theorem e200_23 (X : aX) (la : aLs) (st : List aV) (M : aM) : go X 200 23 la st M = i_irt st M := evR ((pm200 X 23).trans rfl) la st M
theorem c200 (X : aX) (as : List aV) (M : aM) : cl X 200 as M = if cs as ≤ 2 then go X 200 0 (ent 2 as) [] M else none := rfl
theorem pm201 (X : aX) (pc : Nat) : pg X 201 pc = lk pc (tb201 X) := rfl
theorem e201_0 (X : aX) (la : aLs) (st : List aV) (M : aM) : go X 201 0 la st M = kC X 201 (i_ldi 1 1 la st M) := evC ((pm201 X 0).trans rfl) la st M
theorem e201_1 (X : aX) (la : aLs) (st : List aV) (M : aM) : go X 201 1 la st M = kK X 201 199 1 4 0 la st M := evK ((pm201 X 1).trans rfl) la st M
theorem e201_4 (X : aX) (la : aLs) (st : List aV) (M : aM) : go X 201 4 la st M = kC X 201 (i_ife 29 7 la st M) := evC ((pm201 X 4).trans rfl) la st M
theorem e201_7 (X : aX) (la : aLs) (st : List aV) (M : aM) : go X 201 7 la st M = kC X 201 (i_ldi 2 8 la st M) := evC ((pm201 X 7).trans rfl) la st M
theorem e201_8 (X : aX) (la : aLs) (st : List aV) (M : aM) : go X 201 8 la st M = kC X 201 (i_ife 36 11 la st M) := evC ((pm201 X 8).trans rfl) la st M
theorem e201_11 (X : aX) (la : aLs) (st : List aV) (M : aM) : go X 201 11 la st M = kC X 201 (i_ldi 2 12 la st M) := evC ((pm201 X 11).trans rfl) la st M
theorem e201_12 (X : aX) (la : aLs) (st : List aV) (M : aM) : go X 201 12 la st M = kC X 201 (i_ci (nI 8) 14 la st M) := evC ((pm201 X 12).trans rfl) la st M
theorem e201_14 (X : aX) (la : aLs) (st : List aV) (M : aM) : go X 201 14 la st M = kC X 201 (i_cme 36 17 la st M) := evC ((pm201 X 14).trans rfl) la st M
theorem e201_17 (X : aX) (la : aLs) (st : List aV) (M : aM) : go X 201 17 la st M = kC X 201 (i_ldi 2 18 la st M) := evC ((pm201 X 17).trans rfl) la st M
theorem e201_18 (X : aX) (la : aLs) (st : List aV) (M : aM) : go X 201 18 la st M = kC X 201 (i_ci (nI 16) 20 la st M) := evC ((pm201 X 18).trans rfl) la st M
theorem e201_20 (X : aX) (la : aLs) (st : List aV) (M : aM) : go X 201 20 la st M = kC X 201 (i_cme 36 23 la st M) := evC ((pm201 X 20).trans rfl) la st M
theorem e201_23 (X : aX) (la : aLs) (st : List aV) (M : aM) : go X 201 23 la st M = kC X 201 (i_ldi 2 24 la st M) := evC ((pm201 X 23).trans rfl) la st M
theorem e201_24 (X : aX) (la : aLs) (st : List aV) (M : aM) : go X 201 24 la st M = kC X 201 (i_ci (nI 32) 26 la st M) := evC ((pm201 X 24).trans rfl) la st M
theorem e201_26 (X : aX) (la : aLs) (st : List aV) (M : aM) : go X 201 26 la st M = kC X 201 (i_cme 36 29 la st M) := evC ((pm201 X 26).trans rfl) la st M
theorem e201_29 (X : aX) (la : aLs) (st : List aV) (M : aM) : go X 201 29 la st M = kC X 201 (i_lda 0 30 la st M) := evC ((pm201 X 29).trans rfl) la st M
theorem e201_30 (X : aX) (la : aLs) (st : List aV) (M : aM) : go X 201 30 la st M = kC X 201 (i_ci (-1000001) 32 la st M) := evC ((pm201 X 30).trans rfl) la st M
theorem e201_32 (X : aX) (la : aLs) (st : List aV) (M : aM) : go X 201 32 la st M = kK X 201 113 2 35 7 la st M := evK ((pm201 X 32).trans rfl) la st M
theorem e201_35 (X : aX) (la : aLs) (st : List aV) (M : aM) : go X 201 35 la st M = i_irt st M := evR ((pm201 X 35).trans rfl) la st M
theorem e201_36 (X : aX) (la : aLs) (st : List aV) (M : aM) : go X 201 36 la st M = kC X 201 (i_ldi 3 37 la st M) := evC ((pm201 X 36).trans rfl) la st M
theorem e201_37 (X : aX) (la : aLs) (st : List aV) (M : aM) : go X 201 37 la st M = kC X 201 (i_ifl 40 48 la st M) := evC ((pm201 X 37).trans rfl) la st M
theorem e201_40 (X : aX) (la : aLs) (st : List aV) (M : aM) : go X 201 40 la st M = kC X 201 (i_lda 0 41 la st M) := evC ((pm201 X 40).trans rfl) la st M
theorem e201_41 (X : aX) (la : aLs) (st : List aV) (M : aM) : go X 201 41 la st M = kC X 201 (i_ci (-1000007) 44 la st M) := evC ((pm201 X 41).trans rfl) la st M
theorem e201_44 (X : aX) (la : aLs) (st : List aV) (M : aM) : go X 201 44 la st M = kK X 201 113 2 47 7 la st M := evK ((pm201 X 44).trans rfl) la st M
theorem e201_47 (X : aX) (la : aLs) (st : List aV) (M : aM) : go X 201 47 la st M = i_irt st M := evR ((pm201 X 47).trans rfl) la st M
theorem e201_48 (X : aX) (la : aLs) (st : List aV) (M : aM) : go X 201 48 la st M = kC X 201 (i_ldi 3 49 la st M) := evC ((pm201 X 48).trans rfl) la st M
theorem e201_49 (X : aX) (la : aLs) (st : List aV) (M : aM) : go X 201 49 la st M = kC X 201 (i_ci (nI 40) 51 la st M) := evC ((pm201 X 49).trans rfl) la st M
theorem e201_51 (X : aX) (la : aLs) (st : List aV) (M : aM) : go X 201 51 la st M = kC X 201 (i_cmg 54 61 la st M) := evC ((pm201 X 51).trans rfl) la st M
theorem e201_54 (X : aX) (la : aLs) (st : List aV) (M : aM) : go X 201 54 la st M = kC X 201 (i_lda 0 55 la st M) := evC ((pm201 X 54).trans rfl) la st M
theorem e201_55 (X : aX) (la : aLs) (st : List aV) (M : aM) : go X 201 55 la st M = kC X 201 (i_ci (-1000001) 57 la st M) := evC ((pm201 X 55).trans rfl) la st M
theorem e201_57 (X : aX) (la : aLs) (st : List aV) (M : aM) : go X 201 57 la st M = kK X 201 113 2 60 7 la st M := evK ((pm201 X 57).trans rfl) la st M
theorem e201_60 (X : aX) (la : aLs) (st : List aV) (M : aM) : go X 201 60 la st M = i_irt st M := evR ((pm201 X 60).trans rfl) la st M
theorem e201_61 (X : aX) (la : aLs) (st : List aV) (M : aM) : go X 201 61 la st M = kC X 201 (i_lda 0 62 la st M) := evC ((pm201 X 61).trans rfl) la st M
theorem e201_62 (X : aX) (la : aLs) (st : List aV) (M : aM) : go X 201 62 la st M = kC X 201 (i_get 6 18 65 la st M) := evC ((pm201 X 62).trans rfl) la st M
theorem e201_65 (X : aX) (la : aLs) (st : List aV) (M : aM) : go X 201 65 la st M = kC X 201 (i_ldi 1 66 la st M) := evC ((pm201 X 65).trans rfl) la st M
theorem e201_66 (X : aX) (la : aLs) (st : List aV) (M : aM) : go X 201 66 la st M = kC X 201 (i_ldi 2 67 la st M) := evC ((pm201 X 66).trans rfl) la st M
theorem e201_67 (X : aX) (la : aLs) (st : List aV) (M : aM) : go X 201 67 la st M = kC X 201 (i_ias 68 la st M) := evC ((pm201 X 67).trans rfl) la st M
theorem e201_68 (X : aX) (la : aLs) (st : List aV) (M : aM) : go X 201 68 la st M = kC X 201 (i_lda 0 69 la st M) := evC ((pm201 X 68).trans rfl) la st M
theorem e201_69 (X : aX) (la : aLs) (st : List aV) (M : aM) : go X 201 69 la st M = kC X 201 (i_get 6 19 72 la st M) := evC ((pm201 X 69).trans rfl) la st M
theorem e201_72 (X : aX) (la : aLs) (st : List aV) (M : aM) : go X 201 72 la st M = kC X 201 (i_ldi 1 73 la st M) := evC ((pm201 X 72).trans rfl) la st M
theorem e201_73 (X : aX) (la : aLs) (st : List aV) (M : aM) : go X 201 73 la st M = kC X 201 (i_ldi 2 74 la st M) := evC ((pm201 X 73).trans rfl) la st M
theorem e201_74 (X : aX) (la : aLs) (st : List aV) (M : aM) : go X 201 74 la st M = kC X 201 (i_ife 77 81 la st M) := evC ((pm201 X 74).trans rfl) la st M
theorem e201_77 (X : aX) (la : aLs) (st : List aV) (M : aM) : go X 201 77 la st M = kC X 201 (i_ci (nI 0) 78 la st M) := evC ((pm201 X 77).trans rfl) la st M
theorem e201_78 (X : aX) (la : aLs) (st : List aV) (M : aM) : go X 201 78 la st M = kC X 201 (i_go 82 la st M) := evC ((pm201 X 78).trans rfl) la st M
theorem e201_81 (X : aX) (la : aLs) (st : List aV) (M : aM) : go X 201 81 la st M = kC X 201 (i_ldi 3 82 la st M) := evC ((pm201 X 81).trans rfl) la st M
theorem e201_82 (X : aX) (la : aLs) (st : List aV) (M : aM) : go X 201 82 la st M = kC X 201 (i_ias 83 la st M) := evC ((pm201 X 82).trans rfl) la st M
theorem e201_83 (X : aX) (la : aLs) (st : List aV) (M : aM) : go X 201 83 la st M = kC X 201 (i_ci (nI 0) 84 la st M) := evC ((pm201 X 83).trans rfl) la st M
theorem e201_84 (X : aX) (la : aLs) (st : List aV) (M : aM) : go X 201 84 la st M = kC X 201 (i_sti 4 86 la st M) := evC ((pm201 X 84).trans rfl) la st M
theorem e201_86 (X : aX) (la : aLs) (st : List aV) (M : aM) : go X 201 86 la st M = kC X 201 (i_ldi 4 88 la st M) := evC ((pm201 X 86).trans rfl) la st M
theorem e201_88 (X : aX) (la : aLs) (st : List aV) (M : aM) : go X 201 88 la st M = kC X 201 (i_ci (nI 40) 90 la st M) := evC ((pm201 X 88).trans rfl) la st M
theorem e201_90 (X : aX) (la : aLs) (st : List aV) (M : aM) : go X 201 90 la st M = kC X 201 (i_cml 93 112 la st M) := evC ((pm201 X 90).trans rfl) la st M
theorem e201_93 (X : aX) (la : aLs) (st : List aV) (M : aM) : go X 201 93 la st M = kC X 201 (i_lda 0 94 la st M) := evC ((pm201 X 93).trans rfl) la st M
theorem e201_94 (X : aX) (la : aLs) (st : List aV) (M : aM) : go X 201 94 la st M = kC X 201 (i_get 6 20 97 la st M) := evC ((pm201 X 94).trans rfl) la st M
theorem e201_97 (X : aX) (la : aLs) (st : List aV) (M : aM) : go X 201 97 la st M = kC X 201 (i_ci (nI 40) 99 la st M) := evC ((pm201 X 97).trans rfl) la st M
theorem e201_99 (X : aX) (la : aLs) (st : List aV) (M : aM) : go X 201 99 la st M = kC X 201 (i_ldi 1 100 la st M) := evC ((pm201 X 99).trans rfl) la st M
theorem e201_100 (X : aX) (la : aLs) (st : List aV) (M : aM) : go X 201 100 la st M = kC X 201 (i_bin (fun x y => x * y) 101 la st M) := evC ((pm201 X 100).trans rfl) la st M
theorem e201_101 (X : aX) (la : aLs) (st : List aV) (M : aM) : go X 201 101 la st M = kC X 201 (i_ldi 4 103 la st M) := evC ((pm201 X 101).trans rfl) la st M
theorem e201_103 (X : aX) (la : aLs) (st : List aV) (M : aM) : go X 201 103 la st M = kC X 201 (i_bin (fun x y => x + y) 104 la st M) := evC ((pm201 X 103).trans rfl) la st M
theorem e201_104 (X : aX) (la : aLs) (st : List aV) (M : aM) : go X 201 104 la st M = kC X 201 (i_ci (nI 0) 105 la st M) := evC ((pm201 X 104).trans rfl) la st M
theorem e201_105 (X : aX) (la : aLs) (st : List aV) (M : aM) : go X 201 105 la st M = kC X 201 (i_ias 106 la st M) := evC ((pm201 X 105).trans rfl) la st M
theorem e201_106 (X : aX) (la : aLs) (st : List aV) (M : aM) : go X 201 106 la st M = kC X 201 (i_inc 4 (nI 1) 109 la st M) := evC ((pm201 X 106).trans rfl) la st M
theorem e201_109 (X : aX) (la : aLs) (st : List aV) (M : aM) : go X 201 109 la st M = kC X 201 (i_go 86 la st M) := evC ((pm201 X 109).trans rfl) la st M
theorem e201_112 (X : aX) (la : aLs) (st : List aV) (M : aM) : go X 201 112 la st M = kC X 201 (i_lda 0 113 la st M) := evC ((pm201 X 112).trans rfl) la st M
theorem e201_113 (X : aX) (la : aLs) (st : List aV) (M : aM) : go X 201 113 la st M = kC X 201 (i_get 6 19 116 la st M) := evC ((pm201 X 113).trans rfl) la st M
theorem e201_116 (X : aX) (la : aLs) (st : List aV) (M : aM) : go X 201 116 la st M = kC X 201 (i_ldi 1 117 la st M) := evC ((pm201 X 116).trans rfl) la st M
theorem e201_117 (X : aX) (la : aLs) (st : List aV) (M : aM) : go X 201 117 la st M = kC X 201 (i_ial X 118 la st M) := evC ((pm201 X 117).trans rfl) la st M
theorem e201_118 (X : aX) (la : aLs) (st : List aV) (M : aM) : go X 201 118 la st M = i_irt st M := evR ((pm201 X 118).trans rfl) la st M
theorem c201 (X : aX) (as : List aV) (M : aM) : cl X 201 as M = if cs as ≤ 5 then go X 201 0 (ent 5 as) [] M else none := rfl
theorem pm202 (X : aX) (pc : Nat) : pg X 202 pc = lk pc (tb202 X) := rfl
theorem e202_0 (X : aX) (la : aLs) (st : List aV) (M : aM) : go X 202 0 la st M = kC X 202 (i_ldi 1 1 la st M) := evC ((pm202 X 0).trans rfl) la st M
theorem e202_1 (X : aX) (la : aLs) (st : List aV) (M : aM) : go X 202 1 la st M = kK X 202 199 1 4 0 la st M := evK ((pm202 X 1).trans rfl) la st M
theorem e202_4 (X : aX) (la : aLs) (st : List aV) (M : aM) : go X 202 4 la st M = kC X 202 (i_ife 7 14 la st M) := evC ((pm202 X 4).trans rfl) la st M
theorem e202_7 (X : aX) (la : aLs) (st : List aV) (M : aM) : go X 202 7 la st M = kC X 202 (i_lda 0 8 la st M) := evC ((pm202 X 7).trans rfl) la st M
theorem e202_8 (X : aX) (la : aLs) (st : List aV) (M : aM) : go X 202 8 la st M = kC X 202 (i_ci (-1000001) 10 la st M) := evC ((pm202 X 8).trans rfl) la st M
theorem e202_10 (X : aX) (la : aLs) (st : List aV) (M : aM) : go X 202 10 la st M = kK X 202 113 2 13 7 la st M := evK ((pm202 X 10).trans rfl) la st M
theorem e202_13 (X : aX) (la : aLs) (st : List aV) (M : aM) : go X 202 13 la st M = i_irt st M := evR ((pm202 X 13).trans rfl) la st M
theorem e202_14 (X : aX) (la : aLs) (st : List aV) (M : aM) : go X 202 14 la st M = kC X 202 (i_lda 0 15 la st M) := evC ((pm202 X 14).trans rfl) la st M
theorem e202_15 (X : aX) (la : aLs) (st : List aV) (M : aM) : go X 202 15 la st M = kC X 202 (i_get 6 18 18 la st M) := evC ((pm202 X 15).trans rfl) la st M
theorem e202_18 (X : aX) (la : aLs) (st : List aV) (M : aM) : go X 202 18 la st M = kC X 202 (i_ldi 1 19 la st M) := evC ((pm202 X 18).trans rfl) la st M
theorem e202_19 (X : aX) (la : aLs) (st : List aV) (M : aM) : go X 202 19 la st M = kC X 202 (i_ial X 20 la st M) := evC ((pm202 X 19).trans rfl) la st M
theorem e202_20 (X : aX) (la : aLs) (st : List aV) (M : aM) : go X 202 20 la st M = kC X 202 (i_ife 23 30 la st M) := evC ((pm202 X 20).trans rfl) la st M
theorem e202_23 (X : aX) (la : aLs) (st : List aV) (M : aM) : go X 202 23 la st M = kC X 202 (i_lda 0 24 la st M) := evC ((pm202 X 23).trans rfl) la st M
theorem e202_24 (X : aX) (la : aLs) (st : List aV) (M : aM) : go X 202 24 la st M = kC X 202 (i_ci (-1000006) 26 la st M) := evC ((pm202 X 24).trans rfl) la st M
theorem e202_26 (X : aX) (la : aLs) (st : List aV) (M : aM) : go X 202 26 la st M = kK X 202 113 2 29 7 la st M := evK ((pm202 X 26).trans rfl) la st M
theorem e202_29 (X : aX) (la : aLs) (st : List aV) (M : aM) : go X 202 29 la st M = i_irt st M := evR ((pm202 X 29).trans rfl) la st M
theorem e202_30 (X : aX) (la : aLs) (st : List aV) (M : aM) : go X 202 30 la st M = kC X 202 (i_ldi 2 31 la st M) := evC ((pm202 X 30).trans rfl) la st M
theorem e202_31 (X : aX) (la : aLs) (st : List aV) (M : aM) : go X 202 31 la st M = kC X 202 (i_ci (nI 0) 32 la st M) := evC ((pm202 X 31).trans rfl) la st M
theorem e202_32 (X : aX) (la : aLs) (st : List aV) (M : aM) : go X 202 32 la st M = kC X 202 (i_lda 0 33 la st M) := evC ((pm202 X 32).trans rfl) la st M
theorem e202_33 (X : aX) (la : aLs) (st : List aV) (M : aM) : go X 202 33 la st M = kC X 202 (i_get 6 19 36 la st M) := evC ((pm202 X 33).trans rfl) la st M
theorem e202_36 (X : aX) (la : aLs) (st : List aV) (M : aM) : go X 202 36 la st M = kC X 202 (i_ldi 1 37 la st M) := evC ((pm202 X 36).trans rfl) la st M
theorem e202_37 (X : aX) (la : aLs) (st : List aV) (M : aM) : go X 202 37 la st M = kC X 202 (i_ial X 38 la st M) := evC ((pm202 X 37).trans rfl) la st M
theorem e202_38 (X : aX) (la : aLs) (st : List aV) (M : aM) : go X 202 38 la st M = kC X 202 (i_ci (nI 1) 39 la st M) := evC ((pm202 X 38).trans rfl) la st M
theorem e202_39 (X : aX) (la : aLs) (st : List aV) (M : aM) : go X 202 39 la st M = kC X 202 (i_bin (fun x y => x - y) 40 la st M) := evC ((pm202 X 39).trans rfl) la st M
theorem e202_40 (X : aX) (la : aLs) (st : List aV) (M : aM) : go X 202 40 la st M = kK X 202 114 3 43 0 la st M := evK ((pm202 X 40).trans rfl) la st M
theorem e202_43 (X : aX) (la : aLs) (st : List aV) (M : aM) : go X 202 43 la st M = kC X 202 (i_ife 46 53 la st M) := evC ((pm202 X 43).trans rfl) la st M
theorem e202_46 (X : aX) (la : aLs) (st : List aV) (M : aM) : go X 202 46 la st M = kC X 202 (i_lda 0 47 la st M) := evC ((pm202 X 46).trans rfl) la st M
theorem e202_47 (X : aX) (la : aLs) (st : List aV) (M : aM) : go X 202 47 la st M = kC X 202 (i_ci (-1000001) 49 la st M) := evC ((pm202 X 47).trans rfl) la st M
theorem e202_49 (X : aX) (la : aLs) (st : List aV) (M : aM) : go X 202 49 la st M = kK X 202 113 2 52 7 la st M := evK ((pm202 X 49).trans rfl) la st M
theorem e202_52 (X : aX) (la : aLs) (st : List aV) (M : aM) : go X 202 52 la st M = i_irt st M := evR ((pm202 X 52).trans rfl) la st M
theorem e202_53 (X : aX) (la : aLs) (st : List aV) (M : aM) : go X 202 53 la st M = kC X 202 (i_lda 0 54 la st M) := evC ((pm202 X 53).trans rfl) la st M
theorem e202_54 (X : aX) (la : aLs) (st : List aV) (M : aM) : go X 202 54 la st M = kC X 202 (i_get 6 20 57 la st M) := evC ((pm202 X 54).trans rfl) la st M
theorem e202_57 (X : aX) (la : aLs) (st : List aV) (M : aM) : go X 202 57 la st M = kC X 202 (i_ci (nI 40) 59 la st M) := evC ((pm202 X 57).trans rfl) la st M
theorem e202_59 (X : aX) (la : aLs) (st : List aV) (M : aM) : go X 202 59 la st M = kC X 202 (i_ldi 1 60 la st M) := evC ((pm202 X 59).trans rfl) la st M
theorem e202_60 (X : aX) (la : aLs) (st : List aV) (M : aM) : go X 202 60 la st M = kC X 202 (i_bin (fun x y => x * y) 61 la st M) := evC ((pm202 X 60).trans rfl) la st M
theorem e202_61 (X : aX) (la : aLs) (st : List aV) (M : aM) : go X 202 61 la st M = kC X 202 (i_ldi 2 62 la st M) := evC ((pm202 X 61).trans rfl) la st M
theorem e202_62 (X : aX) (la : aLs) (st : List aV) (M : aM) : go X 202 62 la st M = kC X 202 (i_bin (fun x y => x + y) 63 la st M) := evC ((pm202 X 62).trans rfl) la st M
theorem e202_63 (X : aX) (la : aLs) (st : List aV) (M : aM) : go X 202 63 la st M = kC X 202 (i_ldi 3 64 la st M) := evC ((pm202 X 63).trans rfl) la st M
theorem e202_64 (X : aX) (la : aLs) (st : List aV) (M : aM) : go X 202 64 la st M = kC X 202 (i_lda 0 65 la st M) := evC ((pm202 X 64).trans rfl) la st M
theorem e202_65 (X : aX) (la : aLs) (st : List aV) (M : aM) : go X 202 65 la st M = kC X 202 (i_get 6 18 68 la st M) := evC ((pm202 X 65).trans rfl) la st M
theorem e202_68 (X : aX) (la : aLs) (st : List aV) (M : aM) : go X 202 68 la st M = kC X 202 (i_ldi 1 69 la st M) := evC ((pm202 X 68).trans rfl) la st M
theorem e202_69 (X : aX) (la : aLs) (st : List aV) (M : aM) : go X 202 69 la st M = kC X 202 (i_ial X 70 la st M) := evC ((pm202 X 69).trans rfl) la st M
theorem e202_70 (X : aX) (la : aLs) (st : List aV) (M : aM) : go X 202 70 la st M = kK X 202 200 2 73 0 la st M := evK ((pm202 X 70).trans rfl) la st M
theorem e202_73 (X : aX) (la : aLs) (st : List aV) (M : aM) : go X 202 73 la st M = kC X 202 (i_ias 74 la st M) := evC ((pm202 X 73).trans rfl) la st M
theorem e202_74 (X : aX) (la : aLs) (st : List aV) (M : aM) : go X 202 74 la st M = kC X 202 (i_ci (nI 1) 75 la st M) := evC ((pm202 X 74).trans rfl) la st M
theorem e202_75 (X : aX) (la : aLs) (st : List aV) (M : aM) : go X 202 75 la st M = i_irt st M := evR ((pm202 X 75).trans rfl) la st M
theorem c202 (X : aX) (as : List aV) (M : aM) : cl X 202 as M = if cs as ≤ 4 then go X 202 0 (ent 4 as) [] M else none := rfl
theorem pm203 (X : aX) (pc : Nat) : pg X 203 pc = lk pc (tb203 X) := rfl
theorem e203_0 (X : aX) (la : aLs) (st : List aV) (M : aM) : go X 203 0 la st M = kC X 203 (i_ldi 1 1 la st M) := evC ((pm203 X 0).trans rfl) la st M
theorem e203_1 (X : aX) (la : aLs) (st : List aV) (M : aM) : go X 203 1 la st M = kK X 203 199 1 4 0 la st M := evK ((pm203 X 1).trans rfl) la st M
theorem e203_4 (X : aX) (la : aLs) (st : List aV) (M : aM) : go X 203 4 la st M = kC X 203 (i_ife 14 7 la st M) := evC ((pm203 X 4).trans rfl) la st M
theorem e203_7 (X : aX) (la : aLs) (st : List aV) (M : aM) : go X 203 7 la st M = kC X 203 (i_ldi 3 8 la st M) := evC ((pm203 X 7).trans rfl) la st M
theorem e203_8 (X : aX) (la : aLs) (st : List aV) (M : aM) : go X 203 8 la st M = kK X 203 199 1 11 0 la st M := evK ((pm203 X 8).trans rfl) la st M
theorem e203_11 (X : aX) (la : aLs) (st : List aV) (M : aM) : go X 203 11 la st M = kC X 203 (i_ife 14 21 la st M) := evC ((pm203 X 11).trans rfl) la st M
theorem e203_14 (X : aX) (la : aLs) (st : List aV) (M : aM) : go X 203 14 la st M = kC X 203 (i_lda 0 15 la st M) := evC ((pm203 X 14).trans rfl) la st M
theorem e203_15 (X : aX) (la : aLs) (st : List aV) (M : aM) : go X 203 15 la st M = kC X 203 (i_ci (-1000001) 17 la st M) := evC ((pm203 X 15).trans rfl) la st M
theorem e203_17 (X : aX) (la : aLs) (st : List aV) (M : aM) : go X 203 17 la st M = kK X 203 113 2 20 7 la st M := evK ((pm203 X 17).trans rfl) la st M
theorem e203_20 (X : aX) (la : aLs) (st : List aV) (M : aM) : go X 203 20 la st M = i_irt st M := evR ((pm203 X 20).trans rfl) la st M
theorem e203_21 (X : aX) (la : aLs) (st : List aV) (M : aM) : go X 203 21 la st M = kC X 203 (i_lda 0 22 la st M) := evC ((pm203 X 21).trans rfl) la st M
theorem e203_22 (X : aX) (la : aLs) (st : List aV) (M : aM) : go X 203 22 la st M = kC X 203 (i_get 6 18 25 la st M) := evC ((pm203 X 22).trans rfl) la st M
theorem e203_25 (X : aX) (la : aLs) (st : List aV) (M : aM) : go X 203 25 la st M = kC X 203 (i_ldi 1 26 la st M) := evC ((pm203 X 25).trans rfl) la st M
theorem e203_26 (X : aX) (la : aLs) (st : List aV) (M : aM) : go X 203 26 la st M = kC X 203 (i_ial X 27 la st M) := evC ((pm203 X 26).trans rfl) la st M
theorem e203_27 (X : aX) (la : aLs) (st : List aV) (M : aM) : go X 203 27 la st M = kC X 203 (i_ife 39 30 la st M) := evC ((pm203 X 27).trans rfl) la st M
theorem e203_30 (X : aX) (la : aLs) (st : List aV) (M : aM) : go X 203 30 la st M = kC X 203 (i_lda 0 31 la st M) := evC ((pm203 X 30).trans rfl) la st M
theorem e203_31 (X : aX) (la : aLs) (st : List aV) (M : aM) : go X 203 31 la st M = kC X 203 (i_get 6 18 34 la st M) := evC ((pm203 X 31).trans rfl) la st M
theorem e203_34 (X : aX) (la : aLs) (st : List aV) (M : aM) : go X 203 34 la st M = kC X 203 (i_ldi 3 35 la st M) := evC ((pm203 X 34).trans rfl) la st M
theorem e203_35 (X : aX) (la : aLs) (st : List aV) (M : aM) : go X 203 35 la st M = kC X 203 (i_ial X 36 la st M) := evC ((pm203 X 35).trans rfl) la st M
theorem e203_36 (X : aX) (la : aLs) (st : List aV) (M : aM) : go X 203 36 la st M = kC X 203 (i_ife 39 46 la st M) := evC ((pm203 X 36).trans rfl) la st M
theorem e203_39 (X : aX) (la : aLs) (st : List aV) (M : aM) : go X 203 39 la st M = kC X 203 (i_lda 0 40 la st M) := evC ((pm203 X 39).trans rfl) la st M
theorem e203_40 (X : aX) (la : aLs) (st : List aV) (M : aM) : go X 203 40 la st M = kC X 203 (i_ci (-1000006) 42 la st M) := evC ((pm203 X 40).trans rfl) la st M
theorem e203_42 (X : aX) (la : aLs) (st : List aV) (M : aM) : go X 203 42 la st M = kK X 203 113 2 45 7 la st M := evK ((pm203 X 42).trans rfl) la st M
theorem e203_45 (X : aX) (la : aLs) (st : List aV) (M : aM) : go X 203 45 la st M = i_irt st M := evR ((pm203 X 45).trans rfl) la st M
theorem e203_46 (X : aX) (la : aLs) (st : List aV) (M : aM) : go X 203 46 la st M = kC X 203 (i_lda 0 47 la st M) := evC ((pm203 X 46).trans rfl) la st M
theorem e203_47 (X : aX) (la : aLs) (st : List aV) (M : aM) : go X 203 47 la st M = kC X 203 (i_get 6 18 50 la st M) := evC ((pm203 X 47).trans rfl) la st M
theorem e203_50 (X : aX) (la : aLs) (st : List aV) (M : aM) : go X 203 50 la st M = kC X 203 (i_ldi 1 51 la st M) := evC ((pm203 X 50).trans rfl) la st M
theorem e203_51 (X : aX) (la : aLs) (st : List aV) (M : aM) : go X 203 51 la st M = kC X 203 (i_ial X 52 la st M) := evC ((pm203 X 51).trans rfl) la st M
theorem e203_52 (X : aX) (la : aLs) (st : List aV) (M : aM) : go X 203 52 la st M = kC X 203 (i_lda 0 53 la st M) := evC ((pm203 X 52).trans rfl) la st M
theorem e203_53 (X : aX) (la : aLs) (st : List aV) (M : aM) : go X 203 53 la st M = kC X 203 (i_get 6 18 56 la st M) := evC ((pm203 X 53).trans rfl) la st M
theorem e203_56 (X : aX) (la : aLs) (st : List aV) (M : aM) : go X 203 56 la st M = kC X 203 (i_ldi 3 57 la st M) := evC ((pm203 X 56).trans rfl) la st M
theorem e203_57 (X : aX) (la : aLs) (st : List aV) (M : aM) : go X 203 57 la st M = kC X 203 (i_ial X 58 la st M) := evC ((pm203 X 57).trans rfl) la st M
theorem e203_58 (X : aX) (la : aLs) (st : List aV) (M : aM) : go X 203 58 la st M = kC X 203 (i_cme 69 61 la st M) := evC ((pm203 X 58).trans rfl) la st M
theorem e203_61 (X : aX) (la : aLs) (st : List aV) (M : aM) : go X 203 61 la st M = kC X 203 (i_lda 0 62 la st M) := evC ((pm203 X 61).trans rfl) la st M
theorem e203_62 (X : aX) (la : aLs) (st : List aV) (M : aM) : go X 203 62 la st M = kC X 203 (i_ci (-1000003) 65 la st M) := evC ((pm203 X 62).trans rfl) la st M
theorem e203_65 (X : aX) (la : aLs) (st : List aV) (M : aM) : go X 203 65 la st M = kK X 203 113 2 68 7 la st M := evK ((pm203 X 65).trans rfl) la st M
theorem e203_68 (X : aX) (la : aLs) (st : List aV) (M : aM) : go X 203 68 la st M = i_irt st M := evR ((pm203 X 68).trans rfl) la st M
theorem e203_69 (X : aX) (la : aLs) (st : List aV) (M : aM) : go X 203 69 la st M = kC X 203 (i_ldi 2 70 la st M) := evC ((pm203 X 69).trans rfl) la st M
theorem e203_70 (X : aX) (la : aLs) (st : List aV) (M : aM) : go X 203 70 la st M = kC X 203 (i_ifl 118 73 la st M) := evC ((pm203 X 70).trans rfl) la st M
theorem e203_73 (X : aX) (la : aLs) (st : List aV) (M : aM) : go X 203 73 la st M = kC X 203 (i_ldi 4 75 la st M) := evC ((pm203 X 73).trans rfl) la st M
theorem e203_75 (X : aX) (la : aLs) (st : List aV) (M : aM) : go X 203 75 la st M = kC X 203 (i_ifl 118 78 la st M) := evC ((pm203 X 75).trans rfl) la st M
theorem e203_78 (X : aX) (la : aLs) (st : List aV) (M : aM) : go X 203 78 la st M = kC X 203 (i_ldi 5 80 la st M) := evC ((pm203 X 78).trans rfl) la st M
theorem e203_80 (X : aX) (la : aLs) (st : List aV) (M : aM) : go X 203 80 la st M = kC X 203 (i_ifl 118 83 la st M) := evC ((pm203 X 80).trans rfl) la st M
theorem e203_83 (X : aX) (la : aLs) (st : List aV) (M : aM) : go X 203 83 la st M = kC X 203 (i_ldi 2 84 la st M) := evC ((pm203 X 83).trans rfl) la st M
theorem e203_84 (X : aX) (la : aLs) (st : List aV) (M : aM) : go X 203 84 la st M = kC X 203 (i_i2l 85 la st M) := evC ((pm203 X 84).trans rfl) la st M
theorem e203_85 (X : aX) (la : aLs) (st : List aV) (M : aM) : go X 203 85 la st M = kC X 203 (i_ldi 5 87 la st M) := evC ((pm203 X 85).trans rfl) la st M
theorem e203_87 (X : aX) (la : aLs) (st : List aV) (M : aM) : go X 203 87 la st M = kC X 203 (i_i2l 88 la st M) := evC ((pm203 X 87).trans rfl) la st M
theorem e203_88 (X : aX) (la : aLs) (st : List aV) (M : aM) : go X 203 88 la st M = kC X 203 (i_bnj (fun x y => x + y) 89 la st M) := evC ((pm203 X 88).trans rfl) la st M
theorem e203_89 (X : aX) (la : aLs) (st : List aV) (M : aM) : go X 203 89 la st M = kC X 203 (i_lda 0 90 la st M) := evC ((pm203 X 89).trans rfl) la st M
theorem e203_90 (X : aX) (la : aLs) (st : List aV) (M : aM) : go X 203 90 la st M = kC X 203 (i_get 6 19 93 la st M) := evC ((pm203 X 90).trans rfl) la st M
theorem e203_93 (X : aX) (la : aLs) (st : List aV) (M : aM) : go X 203 93 la st M = kC X 203 (i_ldi 1 94 la st M) := evC ((pm203 X 93).trans rfl) la st M
theorem e203_94 (X : aX) (la : aLs) (st : List aV) (M : aM) : go X 203 94 la st M = kC X 203 (i_ial X 95 la st M) := evC ((pm203 X 94).trans rfl) la st M
theorem e203_95 (X : aX) (la : aLs) (st : List aV) (M : aM) : go X 203 95 la st M = kC X 203 (i_i2l 96 la st M) := evC ((pm203 X 95).trans rfl) la st M
theorem e203_96 (X : aX) (la : aLs) (st : List aV) (M : aM) : go X 203 96 la st M = kC X 203 (i_lcm 97 la st M) := evC ((pm203 X 96).trans rfl) la st M
theorem e203_97 (X : aX) (la : aLs) (st : List aV) (M : aM) : go X 203 97 la st M = kC X 203 (i_ifg 118 100 la st M) := evC ((pm203 X 97).trans rfl) la st M
theorem e203_100 (X : aX) (la : aLs) (st : List aV) (M : aM) : go X 203 100 la st M = kC X 203 (i_ldi 4 102 la st M) := evC ((pm203 X 100).trans rfl) la st M
theorem e203_102 (X : aX) (la : aLs) (st : List aV) (M : aM) : go X 203 102 la st M = kC X 203 (i_i2l 103 la st M) := evC ((pm203 X 102).trans rfl) la st M
theorem e203_103 (X : aX) (la : aLs) (st : List aV) (M : aM) : go X 203 103 la st M = kC X 203 (i_ldi 5 105 la st M) := evC ((pm203 X 103).trans rfl) la st M
theorem e203_105 (X : aX) (la : aLs) (st : List aV) (M : aM) : go X 203 105 la st M = kC X 203 (i_i2l 106 la st M) := evC ((pm203 X 105).trans rfl) la st M
theorem e203_106 (X : aX) (la : aLs) (st : List aV) (M : aM) : go X 203 106 la st M = kC X 203 (i_bnj (fun x y => x + y) 107 la st M) := evC ((pm203 X 106).trans rfl) la st M
theorem e203_107 (X : aX) (la : aLs) (st : List aV) (M : aM) : go X 203 107 la st M = kC X 203 (i_lda 0 108 la st M) := evC ((pm203 X 107).trans rfl) la st M
theorem e203_108 (X : aX) (la : aLs) (st : List aV) (M : aM) : go X 203 108 la st M = kC X 203 (i_get 6 19 111 la st M) := evC ((pm203 X 108).trans rfl) la st M
theorem e203_111 (X : aX) (la : aLs) (st : List aV) (M : aM) : go X 203 111 la st M = kC X 203 (i_ldi 3 112 la st M) := evC ((pm203 X 111).trans rfl) la st M
theorem e203_112 (X : aX) (la : aLs) (st : List aV) (M : aM) : go X 203 112 la st M = kC X 203 (i_ial X 113 la st M) := evC ((pm203 X 112).trans rfl) la st M
theorem e203_113 (X : aX) (la : aLs) (st : List aV) (M : aM) : go X 203 113 la st M = kC X 203 (i_i2l 114 la st M) := evC ((pm203 X 113).trans rfl) la st M
theorem e203_114 (X : aX) (la : aLs) (st : List aV) (M : aM) : go X 203 114 la st M = kC X 203 (i_lcm 115 la st M) := evC ((pm203 X 114).trans rfl) la st M
theorem e203_115 (X : aX) (la : aLs) (st : List aV) (M : aM) : go X 203 115 la st M = kC X 203 (i_ifg 118 125 la st M) := evC ((pm203 X 115).trans rfl) la st M
theorem e203_118 (X : aX) (la : aLs) (st : List aV) (M : aM) : go X 203 118 la st M = kC X 203 (i_lda 0 119 la st M) := evC ((pm203 X 118).trans rfl) la st M
theorem e203_119 (X : aX) (la : aLs) (st : List aV) (M : aM) : go X 203 119 la st M = kC X 203 (i_ci (-1000001) 121 la st M) := evC ((pm203 X 119).trans rfl) la st M
theorem e203_121 (X : aX) (la : aLs) (st : List aV) (M : aM) : go X 203 121 la st M = kK X 203 113 2 124 7 la st M := evK ((pm203 X 121).trans rfl) la st M
theorem e203_124 (X : aX) (la : aLs) (st : List aV) (M : aM) : go X 203 124 la st M = i_irt st M := evR ((pm203 X 124).trans rfl) la st M
theorem e203_125 (X : aX) (la : aLs) (st : List aV) (M : aM) : go X 203 125 la st M = kC X 203 (i_ci (nI 0) 126 la st M) := evC ((pm203 X 125).trans rfl) la st M
theorem e203_126 (X : aX) (la : aLs) (st : List aV) (M : aM) : go X 203 126 la st M = kC X 203 (i_sti 6 128 la st M) := evC ((pm203 X 126).trans rfl) la st M
theorem e203_128 (X : aX) (la : aLs) (st : List aV) (M : aM) : go X 203 128 la st M = kC X 203 (i_ldi 6 130 la st M) := evC ((pm203 X 128).trans rfl) la st M
theorem e203_130 (X : aX) (la : aLs) (st : List aV) (M : aM) : go X 203 130 la st M = kC X 203 (i_ldi 5 132 la st M) := evC ((pm203 X 130).trans rfl) la st M
theorem e203_132 (X : aX) (la : aLs) (st : List aV) (M : aM) : go X 203 132 la st M = kC X 203 (i_cml 135 162 la st M) := evC ((pm203 X 132).trans rfl) la st M
theorem e203_135 (X : aX) (la : aLs) (st : List aV) (M : aM) : go X 203 135 la st M = kC X 203 (i_lda 0 136 la st M) := evC ((pm203 X 135).trans rfl) la st M
theorem e203_136 (X : aX) (la : aLs) (st : List aV) (M : aM) : go X 203 136 la st M = kC X 203 (i_get 6 21 139 la st M) := evC ((pm203 X 136).trans rfl) la st M
theorem e203_139 (X : aX) (la : aLs) (st : List aV) (M : aM) : go X 203 139 la st M = kC X 203 (i_ldi 6 141 la st M) := evC ((pm203 X 139).trans rfl) la st M
theorem e203_141 (X : aX) (la : aLs) (st : List aV) (M : aM) : go X 203 141 la st M = kC X 203 (i_lda 0 142 la st M) := evC ((pm203 X 141).trans rfl) la st M
theorem e203_142 (X : aX) (la : aLs) (st : List aV) (M : aM) : go X 203 142 la st M = kC X 203 (i_get 6 20 145 la st M) := evC ((pm203 X 142).trans rfl) la st M
theorem e203_145 (X : aX) (la : aLs) (st : List aV) (M : aM) : go X 203 145 la st M = kC X 203 (i_ci (nI 40) 147 la st M) := evC ((pm203 X 145).trans rfl) la st M
theorem e203_147 (X : aX) (la : aLs) (st : List aV) (M : aM) : go X 203 147 la st M = kC X 203 (i_ldi 1 148 la st M) := evC ((pm203 X 147).trans rfl) la st M
theorem e203_148 (X : aX) (la : aLs) (st : List aV) (M : aM) : go X 203 148 la st M = kC X 203 (i_bin (fun x y => x * y) 149 la st M) := evC ((pm203 X 148).trans rfl) la st M
theorem e203_149 (X : aX) (la : aLs) (st : List aV) (M : aM) : go X 203 149 la st M = kC X 203 (i_ldi 2 150 la st M) := evC ((pm203 X 149).trans rfl) la st M
theorem e203_150 (X : aX) (la : aLs) (st : List aV) (M : aM) : go X 203 150 la st M = kC X 203 (i_bin (fun x y => x + y) 151 la st M) := evC ((pm203 X 150).trans rfl) la st M
theorem e203_151 (X : aX) (la : aLs) (st : List aV) (M : aM) : go X 203 151 la st M = kC X 203 (i_ldi 6 153 la st M) := evC ((pm203 X 151).trans rfl) la st M
theorem e203_153 (X : aX) (la : aLs) (st : List aV) (M : aM) : go X 203 153 la st M = kC X 203 (i_bin (fun x y => x + y) 154 la st M) := evC ((pm203 X 153).trans rfl) la st M
theorem e203_154 (X : aX) (la : aLs) (st : List aV) (M : aM) : go X 203 154 la st M = kC X 203 (i_ial X 155 la st M) := evC ((pm203 X 154).trans rfl) la st M
theorem e203_155 (X : aX) (la : aLs) (st : List aV) (M : aM) : go X 203 155 la st M = kC X 203 (i_ias 156 la st M) := evC ((pm203 X 155).trans rfl) la st M
theorem e203_156 (X : aX) (la : aLs) (st : List aV) (M : aM) : go X 203 156 la st M = kC X 203 (i_inc 6 (nI 1) 159 la st M) := evC ((pm203 X 156).trans rfl) la st M
theorem e203_159 (X : aX) (la : aLs) (st : List aV) (M : aM) : go X 203 159 la st M = kC X 203 (i_go 128 la st M) := evC ((pm203 X 159).trans rfl) la st M
theorem e203_162 (X : aX) (la : aLs) (st : List aV) (M : aM) : go X 203 162 la st M = kC X 203 (i_ci (nI 0) 163 la st M) := evC ((pm203 X 162).trans rfl) la st M
theorem e203_163 (X : aX) (la : aLs) (st : List aV) (M : aM) : go X 203 163 la st M = kC X 203 (i_sti 6 165 la st M) := evC ((pm203 X 163).trans rfl) la st M
theorem e203_165 (X : aX) (la : aLs) (st : List aV) (M : aM) : go X 203 165 la st M = kC X 203 (i_ldi 6 167 la st M) := evC ((pm203 X 165).trans rfl) la st M
theorem e203_167 (X : aX) (la : aLs) (st : List aV) (M : aM) : go X 203 167 la st M = kC X 203 (i_ldi 5 169 la st M) := evC ((pm203 X 167).trans rfl) la st M
theorem e203_169 (X : aX) (la : aLs) (st : List aV) (M : aM) : go X 203 169 la st M = kC X 203 (i_cml 172 200 la st M) := evC ((pm203 X 169).trans rfl) la st M
theorem e203_172 (X : aX) (la : aLs) (st : List aV) (M : aM) : go X 203 172 la st M = kC X 203 (i_lda 0 173 la st M) := evC ((pm203 X 172).trans rfl) la st M
theorem e203_173 (X : aX) (la : aLs) (st : List aV) (M : aM) : go X 203 173 la st M = kC X 203 (i_get 6 20 176 la st M) := evC ((pm203 X 173).trans rfl) la st M
theorem e203_176 (X : aX) (la : aLs) (st : List aV) (M : aM) : go X 203 176 la st M = kC X 203 (i_ci (nI 40) 178 la st M) := evC ((pm203 X 176).trans rfl) la st M
theorem e203_178 (X : aX) (la : aLs) (st : List aV) (M : aM) : go X 203 178 la st M = kC X 203 (i_ldi 3 179 la st M) := evC ((pm203 X 178).trans rfl) la st M
theorem e203_179 (X : aX) (la : aLs) (st : List aV) (M : aM) : go X 203 179 la st M = kC X 203 (i_bin (fun x y => x * y) 180 la st M) := evC ((pm203 X 179).trans rfl) la st M
theorem e203_180 (X : aX) (la : aLs) (st : List aV) (M : aM) : go X 203 180 la st M = kC X 203 (i_ldi 4 182 la st M) := evC ((pm203 X 180).trans rfl) la st M
theorem e203_182 (X : aX) (la : aLs) (st : List aV) (M : aM) : go X 203 182 la st M = kC X 203 (i_bin (fun x y => x + y) 183 la st M) := evC ((pm203 X 182).trans rfl) la st M
theorem e203_183 (X : aX) (la : aLs) (st : List aV) (M : aM) : go X 203 183 la st M = kC X 203 (i_ldi 6 185 la st M) := evC ((pm203 X 183).trans rfl) la st M
theorem e203_185 (X : aX) (la : aLs) (st : List aV) (M : aM) : go X 203 185 la st M = kC X 203 (i_bin (fun x y => x + y) 186 la st M) := evC ((pm203 X 185).trans rfl) la st M
theorem e203_186 (X : aX) (la : aLs) (st : List aV) (M : aM) : go X 203 186 la st M = kC X 203 (i_lda 0 187 la st M) := evC ((pm203 X 186).trans rfl) la st M
theorem e203_187 (X : aX) (la : aLs) (st : List aV) (M : aM) : go X 203 187 la st M = kC X 203 (i_get 6 21 190 la st M) := evC ((pm203 X 187).trans rfl) la st M
theorem e203_190 (X : aX) (la : aLs) (st : List aV) (M : aM) : go X 203 190 la st M = kC X 203 (i_ldi 6 192 la st M) := evC ((pm203 X 190).trans rfl) la st M
theorem e203_192 (X : aX) (la : aLs) (st : List aV) (M : aM) : go X 203 192 la st M = kC X 203 (i_ial X 193 la st M) := evC ((pm203 X 192).trans rfl) la st M
theorem e203_193 (X : aX) (la : aLs) (st : List aV) (M : aM) : go X 203 193 la st M = kC X 203 (i_ias 194 la st M) := evC ((pm203 X 193).trans rfl) la st M
theorem e203_194 (X : aX) (la : aLs) (st : List aV) (M : aM) : go X 203 194 la st M = kC X 203 (i_inc 6 (nI 1) 197 la st M) := evC ((pm203 X 194).trans rfl) la st M
theorem e203_197 (X : aX) (la : aLs) (st : List aV) (M : aM) : go X 203 197 la st M = kC X 203 (i_go 165 la st M) := evC ((pm203 X 197).trans rfl) la st M
theorem e203_200 (X : aX) (la : aLs) (st : List aV) (M : aM) : go X 203 200 la st M = kC X 203 (i_ldi 5 202 la st M) := evC ((pm203 X 200).trans rfl) la st M
theorem e203_202 (X : aX) (la : aLs) (st : List aV) (M : aM) : go X 203 202 la st M = i_irt st M := evR ((pm203 X 202).trans rfl) la st M
theorem c203 (X : aX) (as : List aV) (M : aM) : cl X 203 as M = if cs as ≤ 7 then go X 203 0 (ent 7 as) [] M else none := rfl
theorem pm204 (X : aX) (pc : Nat) : pg X 204 pc = lk pc (tb204 X) := rfl
theorem e204_0 (X : aX) (la : aLs) (st : List aV) (M : aM) : go X 204 0 la st M = kC X 204 (i_ldi 0 1 la st M) := evC ((pm204 X 0).trans rfl) la st M
theorem e204_1 (X : aX) (la : aLs) (st : List aV) (M : aM) : go X 204 1 la st M = kC X 204 (i_ife 4 8 la st M) := evC ((pm204 X 1).trans rfl) la st M
theorem e204_4 (X : aX) (la : aLs) (st : List aV) (M : aM) : go X 204 4 la st M = kC X 204 (i_ci (-1) 5 la st M) := evC ((pm204 X 4).trans rfl) la st M
theorem e204_5 (X : aX) (la : aLs) (st : List aV) (M : aM) : go X 204 5 la st M = kC X 204 (i_go 37 la st M) := evC ((pm204 X 5).trans rfl) la st M
theorem e204_8 (X : aX) (la : aLs) (st : List aV) (M : aM) : go X 204 8 la st M = kC X 204 (i_ldi 0 9 la st M) := evC ((pm204 X 8).trans rfl) la st M
theorem e204_9 (X : aX) (la : aLs) (st : List aV) (M : aM) : go X 204 9 la st M = kC X 204 (i_ci (nI 3) 10 la st M) := evC ((pm204 X 9).trans rfl) la st M
theorem e204_10 (X : aX) (la : aLs) (st : List aV) (M : aM) : go X 204 10 la st M = kC X 204 (i_cme 13 17 la st M) := evC ((pm204 X 10).trans rfl) la st M
theorem e204_13 (X : aX) (la : aLs) (st : List aV) (M : aM) : go X 204 13 la st M = kC X 204 (i_ci (nI 1) 14 la st M) := evC ((pm204 X 13).trans rfl) la st M
theorem e204_14 (X : aX) (la : aLs) (st : List aV) (M : aM) : go X 204 14 la st M = kC X 204 (i_go 37 la st M) := evC ((pm204 X 14).trans rfl) la st M
theorem e204_17 (X : aX) (la : aLs) (st : List aV) (M : aM) : go X 204 17 la st M = kC X 204 (i_ldi 0 18 la st M) := evC ((pm204 X 17).trans rfl) la st M
theorem e204_18 (X : aX) (la : aLs) (st : List aV) (M : aM) : go X 204 18 la st M = kC X 204 (i_ci (nI 4) 19 la st M) := evC ((pm204 X 18).trans rfl) la st M
theorem e204_19 (X : aX) (la : aLs) (st : List aV) (M : aM) : go X 204 19 la st M = kC X 204 (i_cme 22 26 la st M) := evC ((pm204 X 19).trans rfl) la st M
theorem e204_22 (X : aX) (la : aLs) (st : List aV) (M : aM) : go X 204 22 la st M = kC X 204 (i_ci (nI 3) 23 la st M) := evC ((pm204 X 22).trans rfl) la st M
theorem e204_23 (X : aX) (la : aLs) (st : List aV) (M : aM) : go X 204 23 la st M = kC X 204 (i_go 37 la st M) := evC ((pm204 X 23).trans rfl) la st M
theorem e204_26 (X : aX) (la : aLs) (st : List aV) (M : aM) : go X 204 26 la st M = kC X 204 (i_ldi 0 27 la st M) := evC ((pm204 X 26).trans rfl) la st M
theorem e204_27 (X : aX) (la : aLs) (st : List aV) (M : aM) : go X 204 27 la st M = kC X 204 (i_ci (nI 6) 29 la st M) := evC ((pm204 X 27).trans rfl) la st M
theorem e204_29 (X : aX) (la : aLs) (st : List aV) (M : aM) : go X 204 29 la st M = kC X 204 (i_cme 32 36 la st M) := evC ((pm204 X 29).trans rfl) la st M
theorem e204_32 (X : aX) (la : aLs) (st : List aV) (M : aM) : go X 204 32 la st M = kC X 204 (i_ci (nI 2) 33 la st M) := evC ((pm204 X 32).trans rfl) la st M
theorem e204_33 (X : aX) (la : aLs) (st : List aV) (M : aM) : go X 204 33 la st M = kC X 204 (i_go 37 la st M) := evC ((pm204 X 33).trans rfl) la st M
theorem e204_36 (X : aX) (la : aLs) (st : List aV) (M : aM) : go X 204 36 la st M = kC X 204 (i_ci (nI 0) 37 la st M) := evC ((pm204 X 36).trans rfl) la st M
theorem e204_37 (X : aX) (la : aLs) (st : List aV) (M : aM) : go X 204 37 la st M = i_irt st M := evR ((pm204 X 37).trans rfl) la st M
theorem c204 (X : aX) (as : List aV) (M : aM) : cl X 204 as M = if cs as ≤ 1 then go X 204 0 (ent 1 as) [] M else none := rfl
theorem pm205 (X : aX) (pc : Nat) : pg X 205 pc = lk pc (tb205 X) := rfl
theorem e205_0 (X : aX) (la : aLs) (st : List aV) (M : aM) : go X 205 0 la st M = kC X 205 (i_ldi 0 1 la st M) := evC ((pm205 X 0).trans rfl) la st M
theorem e205_1 (X : aX) (la : aLs) (st : List aV) (M : aM) : go X 205 1 la st M = kC X 205 (i_sti 2 2 la st M) := evC ((pm205 X 1).trans rfl) la st M
theorem e205_2 (X : aX) (la : aLs) (st : List aV) (M : aM) : go X 205 2 la st M = kC X 205 (i_ldi 2 3 la st M) := evC ((pm205 X 2).trans rfl) la st M
theorem e205_3 (X : aX) (la : aLs) (st : List aV) (M : aM) : go X 205 3 la st M = kC X 205 (i_ifl 19 6 la st M) := evC ((pm205 X 3).trans rfl) la st M
theorem e205_6 (X : aX) (la : aLs) (st : List aV) (M : aM) : go X 205 6 la st M = kC X 205 (i_ldi 2 7 la st M) := evC ((pm205 X 6).trans rfl) la st M
theorem e205_7 (X : aX) (la : aLs) (st : List aV) (M : aM) : go X 205 7 la st M = kC X 205 (i_ldi 1 8 la st M) := evC ((pm205 X 7).trans rfl) la st M
theorem e205_8 (X : aX) (la : aLs) (st : List aV) (M : aM) : go X 205 8 la st M = kC X 205 (i_cme 19 11 la st M) := evC ((pm205 X 8).trans rfl) la st M
theorem e205_11 (X : aX) (la : aLs) (st : List aV) (M : aM) : go X 205 11 la st M = kC X 205 (i_ldi 2 12 la st M) := evC ((pm205 X 11).trans rfl) la st M
theorem e205_12 (X : aX) (la : aLs) (st : List aV) (M : aM) : go X 205 12 la st M = kK X 205 204 1 15 0 la st M := evK ((pm205 X 12).trans rfl) la st M
theorem e205_15 (X : aX) (la : aLs) (st : List aV) (M : aM) : go X 205 15 la st M = kC X 205 (i_sti 2 16 la st M) := evC ((pm205 X 15).trans rfl) la st M
theorem e205_16 (X : aX) (la : aLs) (st : List aV) (M : aM) : go X 205 16 la st M = kC X 205 (i_go 2 la st M) := evC ((pm205 X 16).trans rfl) la st M
theorem e205_19 (X : aX) (la : aLs) (st : List aV) (M : aM) : go X 205 19 la st M = kC X 205 (i_ldi 2 20 la st M) := evC ((pm205 X 19).trans rfl) la st M
theorem e205_20 (X : aX) (la : aLs) (st : List aV) (M : aM) : go X 205 20 la st M = kC X 205 (i_ifl 27 23 la st M) := evC ((pm205 X 20).trans rfl) la st M
theorem e205_23 (X : aX) (la : aLs) (st : List aV) (M : aM) : go X 205 23 la st M = kC X 205 (i_ci (nI 1) 24 la st M) := evC ((pm205 X 23).trans rfl) la st M
theorem e205_24 (X : aX) (la : aLs) (st : List aV) (M : aM) : go X 205 24 la st M = kC X 205 (i_go 28 la st M) := evC ((pm205 X 24).trans rfl) la st M
theorem e205_27 (X : aX) (la : aLs) (st : List aV) (M : aM) : go X 205 27 la st M = kC X 205 (i_ci (nI 0) 28 la st M) := evC ((pm205 X 27).trans rfl) la st M
theorem e205_28 (X : aX) (la : aLs) (st : List aV) (M : aM) : go X 205 28 la st M = i_zrt st M := evR ((pm205 X 28).trans rfl) la st M
theorem c205 (X : aX) (as : List aV) (M : aM) : cl X 205 as M = if cs as ≤ 3 then go X 205 0 (ent 3 as) [] M else none := rfl
