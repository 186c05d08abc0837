/-! by program: the law's links and rooms -/
set_option maxRecDepth 100000 in
theorem lv_XL_13 : LkV 13 3 RL K_X7_base := ⟨⟨(wmem 256 (by decide +kernel) rfl), (wmem 45 (by decide +kernel) rfl), (wmem 259 rfl rfl), by decide, by decide, by decide +kernel⟩, (wmem 257 (by decide +kernel) rfl), (wmem 258 (by decide +kernel) rfl)⟩
theorem rm_XL_13 : RmOk room_1 K_X7_base := ⟨rfl, rfl, Nat.le_of_ble_eq_true rfl, Nat.le_of_ble_eq_true rfl⟩
set_option maxRecDepth 100000 in
theorem lv_XL_17 : LkV 17 3 RL K_X8_base := ⟨⟨(wmem 756 (by decide +kernel) rfl), (wmem 54 (by decide +kernel) rfl), (wmem 759 rfl rfl), by decide, by decide, by decide +kernel⟩, (wmem 757 (by decide +kernel) rfl), (wmem 758 (by decide +kernel) rfl)⟩
theorem rm_XL_17 : RmOk room_1 K_X8_base := ⟨rfl, rfl, Nat.le_of_ble_eq_true rfl, Nat.le_of_ble_eq_true rfl⟩
set_option maxRecDepth 100000 in
theorem lv_XL_18 : LkV 18 2 RL K_X7_of := ⟨⟨(wmem 291 (by decide +kernel) rfl), (wmem 45 (by decide +kernel) rfl), (wmem 294 rfl rfl), by decide, by decide, by decide +kernel⟩, (wmem 292 (by decide +kernel) rfl), (wmem 293 (by decide +kernel) rfl)⟩
theorem rm_XL_18 : RmOk room_1 K_X7_of := ⟨rfl, rfl, Nat.le_of_ble_eq_true rfl, Nat.le_of_ble_eq_true rfl⟩
set_option maxRecDepth 100000 in
theorem lv_XL_22 : LkV 22 2 RL K_X8_of := ⟨⟨(wmem 776 (by decide +kernel) rfl), (wmem 54 (by decide +kernel) rfl), (wmem 779 rfl rfl), by decide, by decide, by decide +kernel⟩, (wmem 777 (by decide +kernel) rfl), (wmem 778 (by decide +kernel) rfl)⟩
theorem rm_XL_22 : RmOk room_1 K_X8_of := ⟨rfl, rfl, Nat.le_of_ble_eq_true rfl, Nat.le_of_ble_eq_true rfl⟩
set_option maxRecDepth 100000 in
theorem lv_XL_23 : LkV 23 3 RL K_X7_worth := ⟨⟨(wmem 299 (by decide +kernel) rfl), (wmem 45 (by decide +kernel) rfl), (wmem 302 rfl rfl), by decide, by decide, by decide +kernel⟩, (wmem 300 (by decide +kernel) rfl), (wmem 301 (by decide +kernel) rfl)⟩
theorem rm_XL_23 : RmOk room_1 K_X7_worth := ⟨rfl, rfl, Nat.le_of_ble_eq_true rfl, Nat.le_of_ble_eq_true rfl⟩
set_option maxRecDepth 100000 in
theorem lv_XL_27 : LkV 27 3 RL K_X8_worth_ := ⟨⟨(wmem 784 (by decide +kernel) rfl), (wmem 54 (by decide +kernel) rfl), (wmem 787 rfl rfl), by decide, by decide, by decide +kernel⟩, (wmem 785 (by decide +kernel) rfl), (wmem 786 (by decide +kernel) rfl)⟩
theorem rm_XL_27 : RmOk room_1 K_X8_worth_ := ⟨rfl, rfl, Nat.le_of_ble_eq_true rfl, Nat.le_of_ble_eq_true rfl⟩
set_option maxRecDepth 100000 in
theorem lv_XL_28 : LkV 28 1 RL K_X7_top := ⟨⟨(wmem 308 (by decide +kernel) rfl), (wmem 45 (by decide +kernel) rfl), (wmem 311 rfl rfl), by decide, by decide, by decide +kernel⟩, (wmem 309 (by decide +kernel) rfl), (wmem 310 (by decide +kernel) rfl)⟩
theorem rm_XL_28 : RmOk room_1 K_X7_top := ⟨rfl, rfl, Nat.le_of_ble_eq_true rfl, Nat.le_of_ble_eq_true rfl⟩
set_option maxRecDepth 100000 in
theorem lv_XL_32 : LkV 32 1 RL K_X8_top := ⟨⟨(wmem 793 (by decide +kernel) rfl), (wmem 54 (by decide +kernel) rfl), (wmem 796 rfl rfl), by decide, by decide, by decide +kernel⟩, (wmem 794 (by decide +kernel) rfl), (wmem 795 (by decide +kernel) rfl)⟩
theorem rm_XL_32 : RmOk room_1 K_X8_top := ⟨rfl, rfl, Nat.le_of_ble_eq_true rfl, Nat.le_of_ble_eq_true rfl⟩
set_option maxRecDepth 100000 in
theorem lv_XL_33 : LkV 33 2 RL K_X7_taken := ⟨⟨(wmem 312 (by decide +kernel) rfl), (wmem 45 (by decide +kernel) rfl), (wmem 315 rfl rfl), by decide, by decide, by decide +kernel⟩, (wmem 313 (by decide +kernel) rfl), (wmem 314 (by decide +kernel) rfl)⟩
theorem rm_XL_33 : RmOk room_1 K_X7_taken := ⟨rfl, rfl, Nat.le_of_ble_eq_true rfl, Nat.le_of_ble_eq_true rfl⟩
set_option maxRecDepth 100000 in
theorem lv_XL_36 : LkV 36 2 RL K_X8_taken := ⟨⟨(wmem 797 (by decide +kernel) rfl), (wmem 54 (by decide +kernel) rfl), (wmem 800 rfl rfl), by decide, by decide, by decide +kernel⟩, (wmem 798 (by decide +kernel) rfl), (wmem 799 (by decide +kernel) rfl)⟩
theorem rm_XL_36 : RmOk room_1 K_X8_taken := ⟨rfl, rfl, Nat.le_of_ble_eq_true rfl, Nat.le_of_ble_eq_true rfl⟩
set_option maxRecDepth 100000 in
theorem lv_XL_39 : LkV 39 3 RL K_X7_write := ⟨⟨(wmem 319 (by decide +kernel) rfl), (wmem 45 (by decide +kernel) rfl), (wmem 322 rfl rfl), by decide, by decide, by decide +kernel⟩, (wmem 320 (by decide +kernel) rfl), (wmem 321 (by decide +kernel) rfl)⟩
theorem rm_XL_39 : RmOk room_1 K_X7_write := ⟨rfl, rfl, Nat.le_of_ble_eq_true rfl, Nat.le_of_ble_eq_true rfl⟩
set_option maxRecDepth 100000 in
theorem lv_XL_43 : LkV 43 3 RL K_X8_write := ⟨⟨(wmem 802 (by decide +kernel) rfl), (wmem 54 (by decide +kernel) rfl), (wmem 805 rfl rfl), by decide, by decide, by decide +kernel⟩, (wmem 803 (by decide +kernel) rfl), (wmem 804 (by decide +kernel) rfl)⟩
theorem rm_XL_43 : RmOk room_1 K_X8_write := ⟨rfl, rfl, Nat.le_of_ble_eq_true rfl, Nat.le_of_ble_eq_true rfl⟩
set_option maxRecDepth 100000 in
theorem lv_XL_44 : LkV 44 1 RL K_X7_empty := ⟨⟨(wmem 340 (by decide +kernel) rfl), (wmem 45 (by decide +kernel) rfl), (wmem 343 rfl rfl), by decide, by decide, by decide +kernel⟩, (wmem 341 (by decide +kernel) rfl), (wmem 342 (by decide +kernel) rfl)⟩
theorem rm_XL_44 : RmOk room_1 K_X7_empty := ⟨rfl, rfl, Nat.le_of_ble_eq_true rfl, Nat.le_of_ble_eq_true rfl⟩
set_option maxRecDepth 100000 in
theorem lv_XL_48 : LkV 48 1 RL K_X8_empty := ⟨⟨(wmem 834 (by decide +kernel) rfl), (wmem 54 (by decide +kernel) rfl), (wmem 837 rfl rfl), by decide, by decide, by decide +kernel⟩, (wmem 835 (by decide +kernel) rfl), (wmem 836 (by decide +kernel) rfl)⟩
theorem rm_XL_48 : RmOk room_1 K_X8_empty := ⟨rfl, rfl, Nat.le_of_ble_eq_true rfl, Nat.le_of_ble_eq_true rfl⟩
set_option maxRecDepth 100000 in
theorem lv_XL_49 : LkV 49 2 RL K_X7_told := ⟨⟨(wmem 344 (by decide +kernel) rfl), (wmem 45 (by decide +kernel) rfl), (wmem 347 rfl rfl), by decide, by decide, by decide +kernel⟩, (wmem 345 (by decide +kernel) rfl), (wmem 346 (by decide +kernel) rfl)⟩
theorem rm_XL_49 : RmOk room_1 K_X7_told := ⟨rfl, rfl, Nat.le_of_ble_eq_true rfl, Nat.le_of_ble_eq_true rfl⟩
set_option maxRecDepth 100000 in
theorem lv_XL_52 : LkV 52 2 RL K_X8_told := ⟨⟨(wmem 842 (by decide +kernel) rfl), (wmem 54 (by decide +kernel) rfl), (wmem 845 rfl rfl), by decide, by decide, by decide +kernel⟩, (wmem 843 (by decide +kernel) rfl), (wmem 844 (by decide +kernel) rfl)⟩
theorem rm_XL_52 : RmOk room_1 K_X8_told := ⟨rfl, rfl, Nat.le_of_ble_eq_true rfl, Nat.le_of_ble_eq_true rfl⟩
set_option maxRecDepth 100000 in
theorem lv_XL_53 : LkV 53 2 RL K_X7_at := ⟨⟨(wmem 355 (by decide +kernel) rfl), (wmem 45 (by decide +kernel) rfl), (wmem 358 rfl rfl), by decide, by decide, by decide +kernel⟩, (wmem 356 (by decide +kernel) rfl), (wmem 357 (by decide +kernel) rfl)⟩
theorem rm_XL_53 : RmOk room_1 K_X7_at := ⟨rfl, rfl, Nat.le_of_ble_eq_true rfl, Nat.le_of_ble_eq_true rfl⟩
set_option maxRecDepth 100000 in
theorem lv_XL_56 : LkV 56 2 RL K_X8_at := ⟨⟨(wmem 854 (by decide +kernel) rfl), (wmem 54 (by decide +kernel) rfl), (wmem 857 rfl rfl), by decide, by decide, by decide +kernel⟩, (wmem 855 (by decide +kernel) rfl), (wmem 856 (by decide +kernel) rfl)⟩
theorem rm_XL_56 : RmOk room_1 K_X8_at := ⟨rfl, rfl, Nat.le_of_ble_eq_true rfl, Nat.le_of_ble_eq_true rfl⟩
set_option maxRecDepth 100000 in
theorem lv_XL_57 : LkV 57 1 RL K_X7_value := ⟨⟨(wmem 359 (by decide +kernel) rfl), (wmem 45 (by decide +kernel) rfl), (wmem 362 rfl rfl), by decide, by decide, by decide +kernel⟩, (wmem 360 (by decide +kernel) rfl), (wmem 361 (by decide +kernel) rfl)⟩
theorem rm_XL_57 : RmOk room_1 K_X7_value := ⟨rfl, rfl, Nat.le_of_ble_eq_true rfl, Nat.le_of_ble_eq_true rfl⟩
set_option maxRecDepth 100000 in
theorem lv_XL_60 : LkV 60 1 RL K_X8_value := ⟨⟨(wmem 866 (by decide +kernel) rfl), (wmem 54 (by decide +kernel) rfl), (wmem 869 rfl rfl), by decide, by decide, by decide +kernel⟩, (wmem 867 (by decide +kernel) rfl), (wmem 868 (by decide +kernel) rfl)⟩
theorem rm_XL_60 : RmOk room_1 K_X8_value := ⟨rfl, rfl, Nat.le_of_ble_eq_true rfl, Nat.le_of_ble_eq_true rfl⟩
set_option maxRecDepth 100000 in
theorem lv_XL_61 : LkV 61 3 RL K_X7_digit := ⟨⟨(wmem 371 (by decide +kernel) rfl), (wmem 45 (by decide +kernel) rfl), (wmem 374 rfl rfl), by decide, by decide, by decide +kernel⟩, (wmem 372 (by decide +kernel) rfl), (wmem 373 (by decide +kernel) rfl)⟩
theorem rm_XL_61 : RmOk room_1 K_X7_digit := ⟨rfl, rfl, Nat.le_of_ble_eq_true rfl, Nat.le_of_ble_eq_true rfl⟩
set_option maxRecDepth 100000 in
theorem lv_XL_64 : LkV 64 3 RL K_X8_digit := ⟨⟨(wmem 878 (by decide +kernel) rfl), (wmem 54 (by decide +kernel) rfl), (wmem 881 rfl rfl), by decide, by decide, by decide +kernel⟩, (wmem 879 (by decide +kernel) rfl), (wmem 880 (by decide +kernel) rfl)⟩
theorem rm_XL_64 : RmOk room_1 K_X8_digit := ⟨rfl, rfl, Nat.le_of_ble_eq_true rfl, Nat.le_of_ble_eq_true rfl⟩
set_option maxRecDepth 100000 in
theorem lv_XL_65 : LkV 65 2 RL K_X7_borrow := ⟨⟨(wmem 384 (by decide +kernel) rfl), (wmem 45 (by decide +kernel) rfl), (wmem 387 rfl rfl), by decide, by decide, by decide +kernel⟩, (wmem 385 (by decide +kernel) rfl), (wmem 386 (by decide +kernel) rfl)⟩
theorem rm_XL_65 : RmOk room_1 K_X7_borrow := ⟨rfl, rfl, Nat.le_of_ble_eq_true rfl, Nat.le_of_ble_eq_true rfl⟩
set_option maxRecDepth 100000 in
theorem lv_XL_68 : LkV 68 2 RL K_X8_borrow := ⟨⟨(wmem 887 (by decide +kernel) rfl), (wmem 54 (by decide +kernel) rfl), (wmem 890 rfl rfl), by decide, by decide, by decide +kernel⟩, (wmem 888 (by decide +kernel) rfl), (wmem 889 (by decide +kernel) rfl)⟩
theorem rm_XL_68 : RmOk room_1 K_X8_borrow := ⟨rfl, rfl, Nat.le_of_ble_eq_true rfl, Nat.le_of_ble_eq_true rfl⟩
set_option maxRecDepth 100000 in
theorem lv_XL_69 : LkV 69 2 RL K_X7_carry := ⟨⟨(wmem 409 (by decide +kernel) rfl), (wmem 45 (by decide +kernel) rfl), (wmem 412 rfl rfl), by decide, by decide, by decide +kernel⟩, (wmem 410 (by decide +kernel) rfl), (wmem 411 (by decide +kernel) rfl)⟩
theorem rm_XL_69 : RmOk room_1 K_X7_carry := ⟨rfl, rfl, Nat.le_of_ble_eq_true rfl, Nat.le_of_ble_eq_true rfl⟩
set_option maxRecDepth 100000 in
theorem lv_XL_72 : LkV 72 2 RL K_X8_carry := ⟨⟨(wmem 899 (by decide +kernel) rfl), (wmem 54 (by decide +kernel) rfl), (wmem 902 rfl rfl), by decide, by decide, by decide +kernel⟩, (wmem 900 (by decide +kernel) rfl), (wmem 901 (by decide +kernel) rfl)⟩
theorem rm_XL_72 : RmOk room_1 K_X8_carry := ⟨rfl, rfl, Nat.le_of_ble_eq_true rfl, Nat.le_of_ble_eq_true rfl⟩
set_option maxRecDepth 100000 in
theorem lv_XL_73 : LkV 73 1 RL K_X7_settle := ⟨⟨(wmem 413 (by decide +kernel) rfl), (wmem 45 (by decide +kernel) rfl), (wmem 416 rfl rfl), by decide, by decide, by decide +kernel⟩, (wmem 414 (by decide +kernel) rfl), (wmem 415 (by decide +kernel) rfl)⟩
theorem rm_XL_73 : RmOk room_1 K_X7_settle := ⟨rfl, rfl, Nat.le_of_ble_eq_true rfl, Nat.le_of_ble_eq_true rfl⟩
set_option maxRecDepth 100000 in
theorem lv_XL_76 : LkV 76 1 RL K_X8_settle := ⟨⟨(wmem 903 (by decide +kernel) rfl), (wmem 54 (by decide +kernel) rfl), (wmem 906 rfl rfl), by decide, by decide, by decide +kernel⟩, (wmem 904 (by decide +kernel) rfl), (wmem 905 (by decide +kernel) rfl)⟩
theorem rm_XL_76 : RmOk room_1 K_X8_settle := ⟨rfl, rfl, Nat.le_of_ble_eq_true rfl, Nat.le_of_ble_eq_true rfl⟩
set_option maxRecDepth 100000 in
theorem lv_XL_77 : LkV 77 1 RL K_X7_right := ⟨⟨(wmem 426 (by decide +kernel) rfl), (wmem 45 (by decide +kernel) rfl), (wmem 429 rfl rfl), by decide, by decide, by decide +kernel⟩, (wmem 427 (by decide +kernel) rfl), (wmem 428 (by decide +kernel) rfl)⟩
theorem rm_XL_77 : RmOk room_1 K_X7_right := ⟨rfl, rfl, Nat.le_of_ble_eq_true rfl, Nat.le_of_ble_eq_true rfl⟩
set_option maxRecDepth 100000 in
theorem lv_XL_80 : LkV 80 1 RL K_X8_right := ⟨⟨(wmem 907 (by decide +kernel) rfl), (wmem 54 (by decide +kernel) rfl), (wmem 910 rfl rfl), by decide, by decide, by decide +kernel⟩, (wmem 908 (by decide +kernel) rfl), (wmem 909 (by decide +kernel) rfl)⟩
theorem rm_XL_80 : RmOk room_1 K_X8_right := ⟨rfl, rfl, Nat.le_of_ble_eq_true rfl, Nat.le_of_ble_eq_true rfl⟩
set_option maxRecDepth 100000 in
theorem lv_XL_81 : LkV 81 2 RL K_X7_shift := ⟨⟨(wmem 437 (by decide +kernel) rfl), (wmem 45 (by decide +kernel) rfl), (wmem 440 rfl rfl), by decide, by decide, by decide +kernel⟩, (wmem 438 (by decide +kernel) rfl), (wmem 439 (by decide +kernel) rfl)⟩
theorem rm_XL_81 : RmOk room_1 K_X7_shift := ⟨rfl, rfl, Nat.le_of_ble_eq_true rfl, Nat.le_of_ble_eq_true rfl⟩
set_option maxRecDepth 100000 in
theorem lv_XL_84 : LkV 84 2 RL K_X8_shift := ⟨⟨(wmem 911 (by decide +kernel) rfl), (wmem 54 (by decide +kernel) rfl), (wmem 914 rfl rfl), by decide, by decide, by decide +kernel⟩, (wmem 912 (by decide +kernel) rfl), (wmem 913 (by decide +kernel) rfl)⟩
theorem rm_XL_84 : RmOk room_1 K_X8_shift := ⟨rfl, rfl, Nat.le_of_ble_eq_true rfl, Nat.le_of_ble_eq_true rfl⟩
set_option maxRecDepth 100000 in
theorem lv_XL_85 : LkV 85 2 RL K_X7_on := ⟨⟨(wmem 445 (by decide +kernel) rfl), (wmem 45 (by decide +kernel) rfl), (wmem 448 rfl rfl), by decide, by decide, by decide +kernel⟩, (wmem 446 (by decide +kernel) rfl), (wmem 447 (by decide +kernel) rfl)⟩
theorem rm_XL_85 : RmOk room_1 K_X7_on := ⟨rfl, rfl, Nat.le_of_ble_eq_true rfl, Nat.le_of_ble_eq_true rfl⟩
set_option maxRecDepth 100000 in
theorem lv_XL_88 : LkV 88 2 RL K_X8_on := ⟨⟨(wmem 917 (by decide +kernel) rfl), (wmem 54 (by decide +kernel) rfl), (wmem 920 rfl rfl), by decide, by decide, by decide +kernel⟩, (wmem 918 (by decide +kernel) rfl), (wmem 919 (by decide +kernel) rfl)⟩
theorem rm_XL_88 : RmOk room_1 K_X8_on := ⟨rfl, rfl, Nat.le_of_ble_eq_true rfl, Nat.le_of_ble_eq_true rfl⟩
set_option maxRecDepth 100000 in
theorem lv_XL_89 : LkV 89 2 RL K_X7_soon := ⟨⟨(wmem 451 (by decide +kernel) rfl), (wmem 45 (by decide +kernel) rfl), (wmem 454 rfl rfl), by decide, by decide, by decide +kernel⟩, (wmem 452 (by decide +kernel) rfl), (wmem 453 (by decide +kernel) rfl)⟩
theorem rm_XL_89 : RmOk room_1 K_X7_soon := ⟨rfl, rfl, Nat.le_of_ble_eq_true rfl, Nat.le_of_ble_eq_true rfl⟩
set_option maxRecDepth 100000 in
theorem lv_XL_92 : LkV 92 2 RL K_X8_soon := ⟨⟨(wmem 923 (by decide +kernel) rfl), (wmem 54 (by decide +kernel) rfl), (wmem 926 rfl rfl), by decide, by decide, by decide +kernel⟩, (wmem 924 (by decide +kernel) rfl), (wmem 925 (by decide +kernel) rfl)⟩
theorem rm_XL_92 : RmOk room_1 K_X8_soon := ⟨rfl, rfl, Nat.le_of_ble_eq_true rfl, Nat.le_of_ble_eq_true rfl⟩
set_option maxRecDepth 100000 in
theorem lv_XL_93 : LkV 93 4 RL K_X7_sum := ⟨⟨(wmem 461 (by decide +kernel) rfl), (wmem 45 (by decide +kernel) rfl), (wmem 464 rfl rfl), by decide, by decide, by decide +kernel⟩, (wmem 462 (by decide +kernel) rfl), (wmem 463 (by decide +kernel) rfl)⟩
theorem rm_XL_93 : RmOk room_1 K_X7_sum := ⟨rfl, rfl, Nat.le_of_ble_eq_true rfl, Nat.le_of_ble_eq_true rfl⟩
set_option maxRecDepth 100000 in
theorem lv_XL_97 : LkV 97 4 RL K_X8_sum := ⟨⟨(wmem 927 (by decide +kernel) rfl), (wmem 54 (by decide +kernel) rfl), (wmem 930 rfl rfl), by decide, by decide, by decide +kernel⟩, (wmem 928 (by decide +kernel) rfl), (wmem 929 (by decide +kernel) rfl)⟩
theorem rm_XL_97 : RmOk room_1 K_X8_sum := ⟨rfl, rfl, Nat.le_of_ble_eq_true rfl, Nat.le_of_ble_eq_true rfl⟩
set_option maxRecDepth 100000 in
theorem lv_XL_98 : LkV 98 3 RL K_X7_like := ⟨⟨(wmem 475 (by decide +kernel) rfl), (wmem 45 (by decide +kernel) rfl), (wmem 478 rfl rfl), by decide, by decide, by decide +kernel⟩, (wmem 476 (by decide +kernel) rfl), (wmem 477 (by decide +kernel) rfl)⟩
theorem rm_XL_98 : RmOk room_1 K_X7_like := ⟨rfl, rfl, Nat.le_of_ble_eq_true rfl, Nat.le_of_ble_eq_true rfl⟩
set_option maxRecDepth 100000 in
theorem lv_XL_101 : LkV 101 3 RL K_X8_like := ⟨⟨(wmem 936 (by decide +kernel) rfl), (wmem 54 (by decide +kernel) rfl), (wmem 939 rfl rfl), by decide, by decide, by decide +kernel⟩, (wmem 937 (by decide +kernel) rfl), (wmem 938 (by decide +kernel) rfl)⟩
theorem rm_XL_101 : RmOk room_1 K_X8_like := ⟨rfl, rfl, Nat.le_of_ble_eq_true rfl, Nat.le_of_ble_eq_true rfl⟩
set_option maxRecDepth 100000 in
theorem lv_XL_102 : LkV 102 4 RL K_X7_ways := ⟨⟨(wmem 479 (by decide +kernel) rfl), (wmem 45 (by decide +kernel) rfl), (wmem 482 rfl rfl), by decide, by decide, by decide +kernel⟩, (wmem 480 (by decide +kernel) rfl), (wmem 481 (by decide +kernel) rfl)⟩
theorem rm_XL_102 : RmOk room_1 K_X7_ways := ⟨rfl, rfl, Nat.le_of_ble_eq_true rfl, Nat.le_of_ble_eq_true rfl⟩
set_option maxRecDepth 100000 in
theorem lv_XL_106 : LkV 106 4 RL K_X8_ways := ⟨⟨(wmem 940 (by decide +kernel) rfl), (wmem 54 (by decide +kernel) rfl), (wmem 943 rfl rfl), by decide, by decide, by decide +kernel⟩, (wmem 941 (by decide +kernel) rfl), (wmem 942 (by decide +kernel) rfl)⟩
theorem rm_XL_106 : RmOk room_1 K_X8_ways := ⟨rfl, rfl, Nat.le_of_ble_eq_true rfl, Nat.le_of_ble_eq_true rfl⟩
set_option maxRecDepth 100000 in
theorem lv_XL_107 : LkV 107 3 RL K_X7_crossed := ⟨⟨(wmem 507 (by decide +kernel) rfl), (wmem 45 (by decide +kernel) rfl), (wmem 510 rfl rfl), by decide, by decide, by decide +kernel⟩, (wmem 508 (by decide +kernel) rfl), (wmem 509 (by decide +kernel) rfl)⟩
theorem rm_XL_107 : RmOk room_1 K_X7_crossed := ⟨rfl, rfl, Nat.le_of_ble_eq_true rfl, Nat.le_of_ble_eq_true rfl⟩
set_option maxRecDepth 100000 in
theorem lv_XL_110 : LkV 110 3 RL K_X8_crossed := ⟨⟨(wmem 950 (by decide +kernel) rfl), (wmem 54 (by decide +kernel) rfl), (wmem 953 rfl rfl), by decide, by decide, by decide +kernel⟩, (wmem 951 (by decide +kernel) rfl), (wmem 952 (by decide +kernel) rfl)⟩
theorem rm_XL_110 : RmOk room_1 K_X8_crossed := ⟨rfl, rfl, Nat.le_of_ble_eq_true rfl, Nat.le_of_ble_eq_true rfl⟩
set_option maxRecDepth 100000 in
theorem lv_XL_111 : LkV 111 2 RL K_X7_print := ⟨⟨(wmem 511 (by decide +kernel) rfl), (wmem 45 (by decide +kernel) rfl), (wmem 514 rfl rfl), by decide, by decide, by decide +kernel⟩, (wmem 512 (by decide +kernel) rfl), (wmem 513 (by decide +kernel) rfl)⟩
theorem rm_XL_111 : RmOk room_1 K_X7_print := ⟨rfl, rfl, Nat.le_of_ble_eq_true rfl, Nat.le_of_ble_eq_true rfl⟩
set_option maxRecDepth 100000 in
theorem lv_XL_114 : LkV 114 2 RL K_X8_print := ⟨⟨(wmem 954 (by decide +kernel) rfl), (wmem 54 (by decide +kernel) rfl), (wmem 957 rfl rfl), by decide, by decide, by decide +kernel⟩, (wmem 955 (by decide +kernel) rfl), (wmem 956 (by decide +kernel) rfl)⟩
theorem rm_XL_114 : RmOk room_1 K_X8_print := ⟨rfl, rfl, Nat.le_of_ble_eq_true rfl, Nat.le_of_ble_eq_true rfl⟩
set_option maxRecDepth 100000 in
theorem lv_XL_115 : LkV 115 1 RL K_X7_feed := ⟨⟨(wmem 519 (by decide +kernel) rfl), (wmem 45 (by decide +kernel) rfl), (wmem 522 rfl rfl), by decide, by decide, by decide +kernel⟩, (wmem 520 (by decide +kernel) rfl), (wmem 521 (by decide +kernel) rfl)⟩
theorem rm_XL_115 : RmOk room_1 K_X7_feed := ⟨rfl, rfl, Nat.le_of_ble_eq_true rfl, Nat.le_of_ble_eq_true rfl⟩
set_option maxRecDepth 100000 in
theorem lv_XL_118 : LkV 118 1 RL K_X8_feed := ⟨⟨(wmem 962 (by decide +kernel) rfl), (wmem 54 (by decide +kernel) rfl), (wmem 965 rfl rfl), by decide, by decide, by decide +kernel⟩, (wmem 963 (by decide +kernel) rfl), (wmem 964 (by decide +kernel) rfl)⟩
theorem rm_XL_118 : RmOk room_1 K_X8_feed := ⟨rfl, rfl, Nat.le_of_ble_eq_true rfl, Nat.le_of_ble_eq_true rfl⟩
set_option maxRecDepth 100000 in
theorem lv_XL_119 : LkV 119 2 RL K_X7_read := ⟨⟨(wmem 527 (by decide +kernel) rfl), (wmem 45 (by decide +kernel) rfl), (wmem 530 rfl rfl), by decide, by decide, by decide +kernel⟩, (wmem 528 (by decide +kernel) rfl), (wmem 529 (by decide +kernel) rfl)⟩
theorem rm_XL_119 : RmOk room_1 K_X7_read := ⟨rfl, rfl, Nat.le_of_ble_eq_true rfl, Nat.le_of_ble_eq_true rfl⟩
set_option maxRecDepth 100000 in
theorem lv_XL_122 : LkV 122 2 RL K_X8_read := ⟨⟨(wmem 967 (by decide +kernel) rfl), (wmem 54 (by decide +kernel) rfl), (wmem 970 rfl rfl), by decide, by decide, by decide +kernel⟩, (wmem 968 (by decide +kernel) rfl), (wmem 969 (by decide +kernel) rfl)⟩
theorem rm_XL_122 : RmOk room_1 K_X8_read := ⟨rfl, rfl, Nat.le_of_ble_eq_true rfl, Nat.le_of_ble_eq_true rfl⟩
set_option maxRecDepth 100000 in
theorem lv_XL_123 : LkV 123 0 RL K_X7_back := ⟨⟨(wmem 544 (by decide +kernel) rfl), (wmem 45 (by decide +kernel) rfl), (wmem 547 rfl rfl), by decide, by decide, by decide +kernel⟩, (wmem 545 (by decide +kernel) rfl), (wmem 546 (by decide +kernel) rfl)⟩
theorem rm_XL_123 : RmOk room_1 K_X7_back := ⟨rfl, rfl, Nat.le_of_ble_eq_true rfl, Nat.le_of_ble_eq_true rfl⟩
set_option maxRecDepth 100000 in
theorem lv_XL_127 : LkV 127 0 RL K_X8_back := ⟨⟨(wmem 874 (by decide +kernel) rfl), (wmem 54 (by decide +kernel) rfl), (wmem 877 rfl rfl), by decide, by decide, by decide +kernel⟩, (wmem 875 (by decide +kernel) rfl), (wmem 876 (by decide +kernel) rfl)⟩
theorem rm_XL_127 : RmOk room_1 K_X8_back := ⟨rfl, rfl, Nat.le_of_ble_eq_true rfl, Nat.le_of_ble_eq_true rfl⟩
set_option maxRecDepth 100000 in
theorem lv_XL_128 : LkV 128 2 RL K_X7_row := ⟨⟨(wmem 557 (by decide +kernel) rfl), (wmem 45 (by decide +kernel) rfl), (wmem 560 rfl rfl), by decide, by decide, by decide +kernel⟩, (wmem 558 (by decide +kernel) rfl), (wmem 559 (by decide +kernel) rfl)⟩
theorem rm_XL_128 : RmOk room_1 K_X7_row := ⟨rfl, rfl, Nat.le_of_ble_eq_true rfl, Nat.le_of_ble_eq_true rfl⟩
set_option maxRecDepth 100000 in
theorem lv_XL_131 : LkV 131 2 RL K_X8_row := ⟨⟨(wmem 981 (by decide +kernel) rfl), (wmem 54 (by decide +kernel) rfl), (wmem 984 rfl rfl), by decide, by decide, by decide +kernel⟩, (wmem 982 (by decide +kernel) rfl), (wmem 983 (by decide +kernel) rfl)⟩
theorem rm_XL_131 : RmOk room_1 K_X8_row := ⟨rfl, rfl, Nat.le_of_ble_eq_true rfl, Nat.le_of_ble_eq_true rfl⟩
set_option maxRecDepth 100000 in
theorem lv_XL_132 : LkV 132 3 RL K_X7_put := ⟨⟨(wmem 571 (by decide +kernel) rfl), (wmem 45 (by decide +kernel) rfl), (wmem 574 rfl rfl), by decide, by decide, by decide +kernel⟩, (wmem 572 (by decide +kernel) rfl), (wmem 573 (by decide +kernel) rfl)⟩
theorem rm_XL_132 : RmOk room_1 K_X7_put := ⟨rfl, rfl, Nat.le_of_ble_eq_true rfl, Nat.le_of_ble_eq_true rfl⟩
set_option maxRecDepth 100000 in
theorem lv_XL_135 : LkV 135 3 RL K_X8_put := ⟨⟨(wmem 988 (by decide +kernel) rfl), (wmem 54 (by decide +kernel) rfl), (wmem 991 rfl rfl), by decide, by decide, by decide +kernel⟩, (wmem 989 (by decide +kernel) rfl), (wmem 990 (by decide +kernel) rfl)⟩
theorem rm_XL_135 : RmOk room_1 K_X8_put := ⟨rfl, rfl, Nat.le_of_ble_eq_true rfl, Nat.le_of_ble_eq_true rfl⟩
set_option maxRecDepth 100000 in
theorem lv_XL_136 : LkV 136 2 RL K_X7_get := ⟨⟨(wmem 583 (by decide +kernel) rfl), (wmem 45 (by decide +kernel) rfl), (wmem 586 rfl rfl), by decide, by decide, by decide +kernel⟩, (wmem 584 (by decide +kernel) rfl), (wmem 585 (by decide +kernel) rfl)⟩
theorem rm_XL_136 : RmOk room_1 K_X7_get := ⟨rfl, rfl, Nat.le_of_ble_eq_true rfl, Nat.le_of_ble_eq_true rfl⟩
set_option maxRecDepth 100000 in
theorem lv_XL_140 : LkV 140 2 RL K_X8_get := ⟨⟨(wmem 992 (by decide +kernel) rfl), (wmem 54 (by decide +kernel) rfl), (wmem 995 rfl rfl), by decide, by decide, by decide +kernel⟩, (wmem 993 (by decide +kernel) rfl), (wmem 994 (by decide +kernel) rfl)⟩
theorem rm_XL_140 : RmOk room_1 K_X8_get := ⟨rfl, rfl, Nat.le_of_ble_eq_true rfl, Nat.le_of_ble_eq_true rfl⟩
set_option maxRecDepth 100000 in
theorem lv_XL_141 : LkV 141 5 RL K_X7_copy := ⟨⟨(wmem 587 (by decide +kernel) rfl), (wmem 45 (by decide +kernel) rfl), (wmem 590 rfl rfl), by decide, by decide, by decide +kernel⟩, (wmem 588 (by decide +kernel) rfl), (wmem 589 (by decide +kernel) rfl)⟩
theorem rm_XL_141 : RmOk room_1 K_X7_copy := ⟨rfl, rfl, Nat.le_of_ble_eq_true rfl, Nat.le_of_ble_eq_true rfl⟩
set_option maxRecDepth 100000 in
theorem lv_XL_145 : LkV 145 5 RL K_X8_copy := ⟨⟨(wmem 996 (by decide +kernel) rfl), (wmem 54 (by decide +kernel) rfl), (wmem 999 rfl rfl), by decide, by decide, by decide +kernel⟩, (wmem 997 (by decide +kernel) rfl), (wmem 998 (by decide +kernel) rfl)⟩
theorem rm_XL_145 : RmOk room_1 K_X8_copy := ⟨rfl, rfl, Nat.le_of_ble_eq_true rfl, Nat.le_of_ble_eq_true rfl⟩
set_option maxRecDepth 100000 in
theorem lv_XL_146 : LkV 146 3 RL K_X7_lay := ⟨⟨(wmem 595 (by decide +kernel) rfl), (wmem 45 (by decide +kernel) rfl), (wmem 598 rfl rfl), by decide, by decide, by decide +kernel⟩, (wmem 596 (by decide +kernel) rfl), (wmem 597 (by decide +kernel) rfl)⟩
theorem rm_XL_146 : RmOk room_1 K_X7_lay := ⟨rfl, rfl, Nat.le_of_ble_eq_true rfl, Nat.le_of_ble_eq_true rfl⟩
set_option maxRecDepth 100000 in
theorem lv_XL_149 : LkV 149 3 RL K_X8_lay := ⟨⟨(wmem 1000 (by decide +kernel) rfl), (wmem 54 (by decide +kernel) rfl), (wmem 1003 rfl rfl), by decide, by decide, by decide +kernel⟩, (wmem 1001 (by decide +kernel) rfl), (wmem 1002 (by decide +kernel) rfl)⟩
theorem rm_XL_149 : RmOk room_1 K_X8_lay := ⟨rfl, rfl, Nat.le_of_ble_eq_true rfl, Nat.le_of_ble_eq_true rfl⟩
set_option maxRecDepth 100000 in
theorem lv_XL_150 : LkV 150 2 RL K_X7_film := ⟨⟨(wmem 605 (by decide +kernel) rfl), (wmem 45 (by decide +kernel) rfl), (wmem 608 rfl rfl), by decide, by decide, by decide +kernel⟩, (wmem 606 (by decide +kernel) rfl), (wmem 607 (by decide +kernel) rfl)⟩
theorem rm_XL_150 : RmOk room_1 K_X7_film := ⟨rfl, rfl, Nat.le_of_ble_eq_true rfl, Nat.le_of_ble_eq_true rfl⟩
set_option maxRecDepth 100000 in
theorem lv_XL_153 : LkV 153 2 RL K_X8_film := ⟨⟨(wmem 1004 (by decide +kernel) rfl), (wmem 54 (by decide +kernel) rfl), (wmem 1007 rfl rfl), by decide, by decide, by decide +kernel⟩, (wmem 1005 (by decide +kernel) rfl), (wmem 1006 (by decide +kernel) rfl)⟩
theorem rm_XL_153 : RmOk room_1 K_X8_film := ⟨rfl, rfl, Nat.le_of_ble_eq_true rfl, Nat.le_of_ble_eq_true rfl⟩
set_option maxRecDepth 100000 in
theorem lv_XL_154 : LkV 154 0 RL K_X7_image := ⟨⟨(wmem 609 (by decide +kernel) rfl), (wmem 45 (by decide +kernel) rfl), (wmem 612 rfl rfl), by decide, by decide, by decide +kernel⟩, (wmem 610 (by decide +kernel) rfl), (wmem 611 (by decide +kernel) rfl)⟩
theorem rm_XL_154 : RmOk room_1 K_X7_image := ⟨rfl, rfl, Nat.le_of_ble_eq_true rfl, Nat.le_of_ble_eq_true rfl⟩
set_option maxRecDepth 100000 in
theorem lv_XL_157 : LkV 157 0 RL K_X8_image := ⟨⟨(wmem 1009 (by decide +kernel) rfl), (wmem 54 (by decide +kernel) rfl), (wmem 1012 rfl rfl), by decide, by decide, by decide +kernel⟩, (wmem 1010 (by decide +kernel) rfl), (wmem 1011 (by decide +kernel) rfl)⟩
theorem rm_XL_157 : RmOk room_1 K_X8_image := ⟨rfl, rfl, Nat.le_of_ble_eq_true rfl, Nat.le_of_ble_eq_true rfl⟩
set_option maxRecDepth 100000 in
theorem lv_XL_158 : LkV 158 0 RL K_X7_undo := ⟨⟨(wmem 625 (by decide +kernel) rfl), (wmem 45 (by decide +kernel) rfl), (wmem 628 rfl rfl), by decide, by decide, by decide +kernel⟩, (wmem 626 (by decide +kernel) rfl), (wmem 627 (by decide +kernel) rfl)⟩
theorem rm_XL_158 : RmOk room_1 K_X7_undo := ⟨rfl, rfl, Nat.le_of_ble_eq_true rfl, Nat.le_of_ble_eq_true rfl⟩
set_option maxRecDepth 100000 in
theorem lv_XL_161 : LkV 161 0 RL K_X8_undo := ⟨⟨(wmem 1017 (by decide +kernel) rfl), (wmem 54 (by decide +kernel) rfl), (wmem 1020 rfl rfl), by decide, by decide, by decide +kernel⟩, (wmem 1018 (by decide +kernel) rfl), (wmem 1019 (by decide +kernel) rfl)⟩
theorem rm_XL_161 : RmOk room_1 K_X8_undo := ⟨rfl, rfl, Nat.le_of_ble_eq_true rfl, Nat.le_of_ble_eq_true rfl⟩
set_option maxRecDepth 100000 in
theorem lv_XL_162 : LkV 162 1 RL K_X7_count := ⟨⟨(wmem 629 (by decide +kernel) rfl), (wmem 45 (by decide +kernel) rfl), (wmem 632 rfl rfl), by decide, by decide, by decide +kernel⟩, (wmem 630 (by decide +kernel) rfl), (wmem 631 (by decide +kernel) rfl)⟩
theorem rm_XL_162 : RmOk room_1 K_X7_count := ⟨rfl, rfl, Nat.le_of_ble_eq_true rfl, Nat.le_of_ble_eq_true rfl⟩
set_option maxRecDepth 100000 in
theorem lv_XL_165 : LkV 165 1 RL K_X8_count := ⟨⟨(wmem 1021 (by decide +kernel) rfl), (wmem 54 (by decide +kernel) rfl), (wmem 1024 rfl rfl), by decide, by decide, by decide +kernel⟩, (wmem 1022 (by decide +kernel) rfl), (wmem 1023 (by decide +kernel) rfl)⟩
theorem rm_XL_165 : RmOk room_1 K_X8_count := ⟨rfl, rfl, Nat.le_of_ble_eq_true rfl, Nat.le_of_ble_eq_true rfl⟩
theorem lc_XL_37 : Cond.constantLong RL 37 (4294967295) ∈ allW := (wmem 1025 (by decide +kernel) rfl)
