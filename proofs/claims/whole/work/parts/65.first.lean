set_option maxRecDepth 20000 in
theorem zcs_0_11 : zi35 0 11 = 0 := rfl
set_option maxRecDepth 20000 in
theorem zcs_0_12 : zi35 0 12 = 0 := rfl
set_option maxRecDepth 20000 in
theorem zcs_0_13 : zi35 0 13 = 100000 := rfl
set_option maxRecDepth 20000 in
theorem zcs_0_14 : zi35 0 14 = 0 := rfl
set_option maxRecDepth 20000 in
theorem zcs_1_4 : zi35 1 4 = 0 := rfl
set_option maxRecDepth 20000 in
theorem zcs_10_5 : zi35 10 5 = 0 := rfl
set_option maxRecDepth 20000 in
theorem zcs_22_10 : zi35 22 10 = 0 := rfl
set_option maxRecDepth 20000 in
theorem zcs_22_11 : zi35 22 11 = -1 := rfl
set_option maxRecDepth 20000 in
theorem zcs_35_1 : zi35 35 1 = 0 := rfl
set_option maxRecDepth 20000 in
theorem zcs_35_8 : zi35 35 8 = 2 := rfl
set_option maxRecDepth 20000 in
theorem zcs_35_10 : zi35 35 10 = 0 := rfl
set_option maxRecDepth 20000 in
theorem zcs_42_1 : zi35 42 1 = 0 := rfl
set_option maxRecDepth 20000 in
theorem zcs_46_1 : zi35 46 1 = 0 := rfl
set_option maxRecDepth 20000 in
theorem zcs_46_6 : zi35 46 6 = 0 := rfl
set_option maxRecDepth 20000 in
theorem zcs_46_12 : zi35 46 12 = 0 := rfl
set_option maxRecDepth 20000 in
theorem zcs_46_13 : zi35 46 13 = 0 := rfl
set_option maxRecDepth 20000 in
theorem zcs_46_22 : zi35 46 22 = -1 := rfl
set_option maxRecDepth 20000 in
theorem zcs_46_23 : zi35 46 23 = -1 := rfl
set_option maxRecDepth 20000 in
theorem zcs_46_35 : zi35 46 35 = 0 := rfl
set_option maxRecDepth 20000 in
theorem zcs_46_37 : zi35 46 37 = 0 := rfl
set_option maxRecDepth 20000 in
theorem zcs_46_41 : zi35 46 41 = 2 := rfl
set_option maxRecDepth 20000 in
theorem zcs_46_44 : zi35 46 44 = 100000 := rfl
set_option maxRecDepth 20000 in
theorem zcs_46_45 : zi35 46 45 = 0 := rfl
set_option maxRecDepth 20000 in
theorem zcs_46_51 : zi35 46 51 = 0 := rfl
set_option maxRecDepth 20000 in
theorem zcz_2 : zi35 2 = fun _ => 0 := rfl
set_option maxRecDepth 20000 in
theorem zcz_3 : zi35 3 = fun _ => 0 := rfl
set_option maxRecDepth 20000 in
theorem zcz_4 : zi35 4 = fun _ => 0 := rfl
set_option maxRecDepth 20000 in
theorem zcz_5 : zi35 5 = fun _ => 0 := rfl
set_option maxRecDepth 20000 in
theorem zcz_7 : zi35 7 = fun _ => 0 := rfl
set_option maxRecDepth 20000 in
theorem zcz_8 : zi35 8 = fun _ => 0 := rfl
set_option maxRecDepth 20000 in
theorem zcz_9 : zi35 9 = fun _ => 0 := rfl
set_option maxRecDepth 20000 in
theorem zcz_11 : zi35 11 = fun _ => 0 := rfl
set_option maxRecDepth 20000 in
theorem zcz_12 : zi35 12 = fun _ => 0 := rfl
set_option maxRecDepth 20000 in
theorem zcz_13 : zi35 13 = fun _ => 0 := rfl
set_option maxRecDepth 20000 in
theorem zcz_14 : zi35 14 = fun _ => 0 := rfl
set_option maxRecDepth 20000 in
theorem zcz_15 : zi35 15 = fun _ => 0 := rfl
set_option maxRecDepth 20000 in
theorem zcz_23 : zi35 23 = fun _ => 0 := rfl
set_option maxRecDepth 20000 in
theorem zcz_24 : zi35 24 = fun _ => 0 := rfl
set_option maxRecDepth 20000 in
theorem zcz_25 : zi35 25 = fun _ => 0 := rfl
set_option maxRecDepth 20000 in
theorem zcz_26 : zi35 26 = fun _ => 0 := rfl
set_option maxRecDepth 20000 in
theorem zcz_27 : zi35 27 = fun _ => 0 := rfl
set_option maxRecDepth 20000 in
theorem zcz_28 : zi35 28 = fun _ => 0 := rfl
set_option maxRecDepth 20000 in
theorem zcz_29 : zi35 29 = fun _ => 0 := rfl
set_option maxRecDepth 20000 in
theorem zcz_30 : zi35 30 = fun _ => 0 := rfl
set_option maxRecDepth 20000 in
theorem zcz_31 : zi35 31 = fun _ => 0 := rfl
set_option maxRecDepth 20000 in
theorem zcz_32 : zi35 32 = fun _ => 0 := rfl
set_option maxRecDepth 20000 in
theorem zcz_34 : zi35 34 = fun _ => 0 := rfl
set_option maxRecDepth 20000 in
theorem zcz_37 : zi35 37 = fun _ => 0 := rfl
set_option maxRecDepth 20000 in
theorem zcz_38 : zi35 38 = fun _ => 0 := rfl
set_option maxRecDepth 20000 in
theorem zcz_39 : zi35 39 = fun _ => 0 := rfl
set_option maxRecDepth 20000 in
theorem zcz_41 : zi35 41 = fun _ => 0 := rfl
set_option maxRecDepth 20000 in
theorem zcz_43 : zi35 43 = fun _ => 0 := rfl
set_option maxRecDepth 20000 in
theorem zcz_48 : zi35 48 = fun _ => 0 := rfl
set_option maxRecDepth 20000 in
theorem zcz_49 : zi35 49 = fun _ => 0 := rfl
set_option maxRecDepth 20000 in
theorem zcz_50 : zi35 50 = fun _ => 0 := rfl
set_option maxRecDepth 20000 in
theorem zcz_51 : zi35 51 = fun _ => 0 := rfl
set_option maxRecDepth 20000 in
theorem zcz_52 : zi35 52 = fun _ => 0 := rfl
set_option maxRecDepth 20000 in
theorem zcz_53 : zi35 53 = fun _ => 0 := rfl
set_option maxRecDepth 20000 in
theorem zcz_54 : zi35 54 = fun _ => 0 := rfl
set_option maxRecDepth 20000 in
theorem zcz_55 : zi35 55 = fun _ => 0 := rfl
set_option maxRecDepth 20000 in
theorem zcz_56 : zi35 56 = fun _ => 0 := rfl
set_option maxRecDepth 20000 in
theorem zcz_57 : zi35 57 = fun _ => 0 := rfl
set_option maxRecDepth 20000 in
theorem zcz_58 : zi35 58 = fun _ => 0 := rfl
set_option maxRecDepth 20000 in
theorem zcz_59 : zi35 59 = fun _ => 0 := rfl
set_option maxRecDepth 20000 in
theorem zcz_60 : zi35 60 = fun _ => 0 := rfl
set_option maxRecDepth 20000 in
theorem zcz_61 : zi35 61 = fun _ => 0 := rfl
set_option maxRecDepth 20000 in
theorem zcz_62 : zi35 62 = fun _ => 0 := rfl
set_option maxRecDepth 20000 in
theorem zcz_63 : zi35 63 = fun _ => 0 := rfl
set_option maxRecDepth 20000 in
theorem zcz_64 : zi35 64 = fun _ => 0 := rfl
set_option maxRecDepth 20000 in
theorem zcz_66 : zi35 66 = fun _ => 0 := rfl
set_option maxRecDepth 20000 in
theorem zcz_67 : zi35 67 = fun _ => 0 := rfl
set_option maxRecDepth 20000 in
theorem zcz_68 : zi35 68 = fun _ => 0 := rfl
set_option maxRecDepth 20000 in
theorem zcz_70 : zi35 70 = fun _ => 0 := rfl
set_option maxRecDepth 20000 in
theorem zcz_71 : zi35 71 = fun _ => 0 := rfl
set_option maxRecDepth 20000 in
theorem zcz_72 : zi35 72 = fun _ => 0 := rfl
set_option maxRecDepth 20000 in
theorem zcz_73 : zi35 73 = fun _ => 0 := rfl
set_option maxRecDepth 20000 in
theorem zcz_79 : zi35 79 = fun _ => 0 := rfl
set_option maxRecDepth 20000 in
theorem zcw_16 : zi35 16 = (va_up (va_up (va_up (va_up (va_up (va_up (fun _ => 0) 0 20) 1 500) 2 300) 3 400) 4 5) 5 5) := rfl
set_option maxRecDepth 20000 in
theorem zcw_47 : zi35 47 = (va_up (va_up (va_up (va_up (va_up (va_up (fun _ => 0) 0 20) 1 500) 2 300) 3 400) 4 5) 5 5) := rfl
set_option maxRecDepth 20000 in
theorem zcn_45_0 : zi35 45 0 = -1 := rfl
set_option maxRecDepth 20000 in
theorem zcn_45_1 : zi35 45 1 = -1 := rfl
set_option maxRecDepth 20000 in
theorem zcn_45_2 : zi35 45 2 = -1 := rfl
set_option maxRecDepth 20000 in
theorem zcn_45_3 : zi35 45 3 = -1 := rfl
set_option maxRecDepth 20000 in
theorem zcn_77_0 : zi35 77 0 = -1 := rfl
set_option maxRecDepth 20000 in
theorem zcn_77_1 : zi35 77 1 = -1 := rfl
set_option maxRecDepth 20000 in
theorem zcn_77_2 : zi35 77 2 = -1 := rfl
set_option maxRecDepth 20000 in
theorem zcn_77_3 : zi35 77 3 = -1 := rfl
set_option maxRecDepth 20000 in
theorem zca_0 : zi35 33 0 = 0 := rfl
set_option maxRecDepth 20000 in
theorem zca_1 : zi35 33 1 = 0 := rfl
set_option maxRecDepth 20000 in
theorem zca_2 : zi35 33 2 = 0 := rfl
set_option maxRecDepth 20000 in
theorem zca_3 : zi35 33 3 = 0 := rfl
set_option maxRecDepth 20000 in
theorem zca_4 : zi35 33 4 = 0 := rfl
set_option maxRecDepth 20000 in
theorem zca_5 : zi35 33 5 = 0 := rfl
set_option maxRecDepth 20000 in
theorem zca_6 : zi35 33 6 = 0 := rfl
set_option maxRecDepth 20000 in
theorem zcj : zj35 65 = fun _ => 0 := rfl
