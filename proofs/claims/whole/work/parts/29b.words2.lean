/-! words for the makers and for the law -/
theorem oi_i : Cond.instanceMethod objectInit ∈ TB := tb_of (i := 88) (by decide +kernel) rfl
theorem oi_c : Cond.code objectInit ⟨#[0xb1]⟩ 1 none ∈ TB := tb_of (i := 89) (by decide +kernel) rfl
theorem ac_int : Cond.arrayClass .int ∈ TB := tb_of (i := 132) (by decide +kernel) rfl
theorem cl_L_7 : Cond.classLink RL 7 RX5 ∈ TB := tb_of (i := 82) (by decide +kernel) rfl
theorem cl_X5_7 : Cond.classLink RX5 7 RX0 ∈ TB := tb_of (i := 90) (by decide +kernel) rfl
theorem cl_X5_19 : Cond.classLink RX5 19 RX1 ∈ TB := tb_of (i := 133) (by decide +kernel) rfl
theorem cl_X1_9 : Cond.classLink RX1 9 RX0 ∈ TB := tb_of (i := 139) (by decide +kernel) rfl
theorem cl_X5_26 : Cond.classLink RX5 26 RX4 ∈ TB := tb_of (i := 152) (by decide +kernel) rfl
theorem cl_X5_33 : Cond.classLink RX5 33 RX3 ∈ TB := tb_of (i := 183) (by decide +kernel) rfl
theorem cl_X5_43 : Cond.classLink RX5 43 RX2 ∈ TB := tb_of (i := 214) (by decide +kernel) rfl
theorem cl_L_10 : Cond.classLink RL 10 RX6 ∈ TB := tb_of (i := 747) (by decide +kernel) rfl
theorem is_X0 : Cond.instantiable RX0 8 ∈ TB := tb_of (i := 91) (by decide +kernel) rfl
theorem in1_X0 : Cond.initialized RX0 ∈ TB := tb_of (i := 72) (by decide +kernel) rfl
theorem ic_X0 : Cond.code yX0_init cX0_init 1 none ∈ TB := tb_of (i := 94) (by decide +kernel) rfl
theorem ii_X0 : Cond.instanceMethod yX0_init ∈ TB := tb_of (i := 93) (by decide +kernel) rfl
theorem is_X1 : Cond.instantiable RX1 3 ∈ TB := tb_of (i := 134) (by decide +kernel) rfl
theorem in1_X1 : Cond.initialized RX1 ∈ TB := tb_of (i := 75) (by decide +kernel) rfl
theorem ic_X1 : Cond.code yX1_init cX1_init 2 none ∈ TB := tb_of (i := 137) (by decide +kernel) rfl
theorem ii_X1 : Cond.instanceMethod yX1_init ∈ TB := tb_of (i := 136) (by decide +kernel) rfl
theorem is_X2 : Cond.instantiable RX2 2 ∈ TB := tb_of (i := 215) (by decide +kernel) rfl
theorem in1_X2 : Cond.initialized RX2 ∈ TB := tb_of (i := 78) (by decide +kernel) rfl
theorem ic_X2 : Cond.code yX2_init cX2_init 1 none ∈ TB := tb_of (i := 218) (by decide +kernel) rfl
theorem ii_X2 : Cond.instanceMethod yX2_init ∈ TB := tb_of (i := 217) (by decide +kernel) rfl
theorem is_X3 : Cond.instantiable RX3 8 ∈ TB := tb_of (i := 184) (by decide +kernel) rfl
theorem in1_X3 : Cond.initialized RX3 ∈ TB := tb_of (i := 77) (by decide +kernel) rfl
theorem ic_X3 : Cond.code yX3_init cX3_init 1 none ∈ TB := tb_of (i := 187) (by decide +kernel) rfl
theorem ii_X3 : Cond.instanceMethod yX3_init ∈ TB := tb_of (i := 186) (by decide +kernel) rfl
theorem is_X4 : Cond.instantiable RX4 8 ∈ TB := tb_of (i := 153) (by decide +kernel) rfl
theorem in1_X4 : Cond.initialized RX4 ∈ TB := tb_of (i := 76) (by decide +kernel) rfl
theorem ic_X4 : Cond.code yX4_init cX4_init 1 none ∈ TB := tb_of (i := 156) (by decide +kernel) rfl
theorem ii_X4 : Cond.instanceMethod yX4_init ∈ TB := tb_of (i := 155) (by decide +kernel) rfl
theorem is_X5 : Cond.instantiable RX5 11 ∈ TB := tb_of (i := 83) (by decide +kernel) rfl
theorem in1_X5 : Cond.initialized RX5 ∈ TB := tb_of (i := 71) (by decide +kernel) rfl
theorem ic_X5 : Cond.code yX5_init cX5_init 1 none ∈ TB := tb_of (i := 86) (by decide +kernel) rfl
theorem ii_X5 : Cond.instanceMethod yX5_init ∈ TB := tb_of (i := 85) (by decide +kernel) rfl
theorem is_X6 : Cond.instantiable RX6 15 ∈ TB := tb_of (i := 748) (by decide +kernel) rfl
theorem in1_X6 : Cond.initialized RX6 ∈ TB := tb_of (i := 79) (by decide +kernel) rfl
theorem ic_X6 : Cond.code yX6_init cX6_init 1 none ∈ TB := tb_of (i := 751) (by decide +kernel) rfl
theorem ii_X6 : Cond.instanceMethod yX6_init ∈ TB := tb_of (i := 750) (by decide +kernel) rfl
theorem ml_L_9 : Cond.methodLink RL 9 yX5_init ∈ TB := tb_of (i := 84) (by decide +kernel) rfl
theorem ml_L_13 : Cond.methodLink RL 13 yX5_line ∈ TB := tb_of (i := 261) (by decide +kernel) rfl
theorem ml_L_18 : Cond.methodLink RL 18 yX5_goes ∈ TB := tb_of (i := 308) (by decide +kernel) rfl
theorem ml_L_23 : Cond.methodLink RL 23 yX5_shortens ∈ TB := tb_of (i := 327) (by decide +kernel) rfl
theorem ml_L_27 : Cond.methodLink RL 27 yX5_pocket ∈ TB := tb_of (i := 335) (by decide +kernel) rfl
theorem ml_L_32 : Cond.methodLink RL 32 yX5_widens ∈ TB := tb_of (i := 343) (by decide +kernel) rfl
theorem ml_L_36 : Cond.methodLink RL 36 yX5_touches ∈ TB := tb_of (i := 359) (by decide +kernel) rfl
theorem ml_L_40 : Cond.methodLink RL 40 yX5_sets ∈ TB := tb_of (i := 367) (by decide +kernel) rfl
theorem ml_L_44 : Cond.methodLink RL 44 yX5_of ∈ TB := tb_of (i := 379) (by decide +kernel) rfl
theorem ml_L_48 : Cond.methodLink RL 48 yX5_run ∈ TB := tb_of (i := 428) (by decide +kernel) rfl
theorem ml_L_52 : Cond.methodLink RL 52 yX5_about ∈ TB := tb_of (i := 442) (by decide +kernel) rfl
theorem ml_L_56 : Cond.methodLink RL 56 yX5_setting ∈ TB := tb_of (i := 520) (by decide +kernel) rfl
theorem ml_L_60 : Cond.methodLink RL 60 yX5_count ∈ TB := tb_of (i := 525) (by decide +kernel) rfl
theorem ml_L_64 : Cond.methodLink RL 64 yX5_draws ∈ TB := tb_of (i := 546) (by decide +kernel) rfl
theorem ml_L_68 : Cond.methodLink RL 68 yX5_length ∈ TB := tb_of (i := 554) (by decide +kernel) rfl
theorem ml_L_72 : Cond.methodLink RL 72 yX5_blocked ∈ TB := tb_of (i := 558) (by decide +kernel) rfl
theorem ml_L_77 : Cond.methodLink RL 77 yX5_can ∈ TB := tb_of (i := 566) (by decide +kernel) rfl
theorem ml_L_81 : Cond.methodLink RL 81 yX5_least ∈ TB := tb_of (i := 578) (by decide +kernel) rfl
theorem ml_L_85 : Cond.methodLink RL 85 yX5_greatest ∈ TB := tb_of (i := 582) (by decide +kernel) rfl
theorem ml_L_89 : Cond.methodLink RL 89 yX5_more ∈ TB := tb_of (i := 586) (by decide +kernel) rfl
theorem ml_L_93 : Cond.methodLink RL 93 yX5_bumps ∈ TB := tb_of (i := 595) (by decide +kernel) rfl
theorem ml_L_97 : Cond.methodLink RL 97 yX5_skew ∈ TB := tb_of (i := 629) (by decide +kernel) rfl
theorem ml_L_101 : Cond.methodLink RL 101 yX5_type ∈ TB := tb_of (i := 637) (by decide +kernel) rfl
theorem ml_L_105 : Cond.methodLink RL 105 yX5_clear ∈ TB := tb_of (i := 650) (by decide +kernel) rfl
theorem ml_L_109 : Cond.methodLink RL 109 yX5_does ∈ TB := tb_of (i := 658) (by decide +kernel) rfl
theorem ml_L_113 : Cond.methodLink RL 113 yX5_back ∈ TB := tb_of (i := 705) (by decide +kernel) rfl
theorem ml_L_117 : Cond.methodLink RL 117 yX5_told ∈ TB := tb_of (i := 717) (by decide +kernel) rfl
theorem ml_L_121 : Cond.methodLink RL 121 yX5_digest ∈ TB := tb_of (i := 721) (by decide +kernel) rfl
theorem ml_L_12 : Cond.methodLink RL 12 yX6_init ∈ TB := tb_of (i := 749) (by decide +kernel) rfl
theorem ml_L_116 : Cond.methodLink RL 116 yX6_back ∈ TB := tb_of (i := 799) (by decide +kernel) rfl
theorem ml_L_17 : Cond.methodLink RL 17 yX6_line ∈ TB := tb_of (i := 811) (by decide +kernel) rfl
theorem ml_L_22 : Cond.methodLink RL 22 yX6_goes ∈ TB := tb_of (i := 846) (by decide +kernel) rfl
theorem ml_L_26 : Cond.methodLink RL 26 yX6_shortens ∈ TB := tb_of (i := 862) (by decide +kernel) rfl
theorem ml_L_31 : Cond.methodLink RL 31 yX6_pocket ∈ TB := tb_of (i := 870) (by decide +kernel) rfl
theorem ml_L_35 : Cond.methodLink RL 35 yX6_widens ∈ TB := tb_of (i := 878) (by decide +kernel) rfl
theorem ml_L_39 : Cond.methodLink RL 39 yX6_touches ∈ TB := tb_of (i := 894) (by decide +kernel) rfl
theorem ml_L_43 : Cond.methodLink RL 43 yX6_sets ∈ TB := tb_of (i := 902) (by decide +kernel) rfl
theorem ml_L_47 : Cond.methodLink RL 47 yX6_of ∈ TB := tb_of (i := 916) (by decide +kernel) rfl
theorem ml_L_51 : Cond.methodLink RL 51 yX6_run ∈ TB := tb_of (i := 956) (by decide +kernel) rfl
theorem ml_L_80 : Cond.methodLink RL 80 yX6_can ∈ TB := tb_of (i := 968) (by decide +kernel) rfl
theorem ml_L_84 : Cond.methodLink RL 84 yX6_least ∈ TB := tb_of (i := 992) (by decide +kernel) rfl
theorem ml_L_88 : Cond.methodLink RL 88 yX6_greatest ∈ TB := tb_of (i := 1000) (by decide +kernel) rfl
theorem ml_L_76 : Cond.methodLink RL 76 yX6_blocked ∈ TB := tb_of (i := 1004) (by decide +kernel) rfl
theorem ml_L_92 : Cond.methodLink RL 92 yX6_more ∈ TB := tb_of (i := 1011) (by decide +kernel) rfl
theorem ml_L_67 : Cond.methodLink RL 67 yX6_draws ∈ TB := tb_of (i := 1019) (by decide +kernel) rfl
theorem ml_L_71 : Cond.methodLink RL 71 yX6_length ∈ TB := tb_of (i := 1027) (by decide +kernel) rfl
theorem ml_L_55 : Cond.methodLink RL 55 yX6_about ∈ TB := tb_of (i := 1031) (by decide +kernel) rfl
theorem ml_L_59 : Cond.methodLink RL 59 yX6_setting ∈ TB := tb_of (i := 1043) (by decide +kernel) rfl
theorem ml_L_63 : Cond.methodLink RL 63 yX6_count ∈ TB := tb_of (i := 1047) (by decide +kernel) rfl
theorem ml_L_100 : Cond.methodLink RL 100 yX6_skew ∈ TB := tb_of (i := 1055) (by decide +kernel) rfl
theorem ml_L_96 : Cond.methodLink RL 96 yX6_bumps ∈ TB := tb_of (i := 1063) (by decide +kernel) rfl
theorem ml_L_104 : Cond.methodLink RL 104 yX6_type ∈ TB := tb_of (i := 1071) (by decide +kernel) rfl
theorem ml_L_108 : Cond.methodLink RL 108 yX6_clear ∈ TB := tb_of (i := 1075) (by decide +kernel) rfl
theorem ml_L_112 : Cond.methodLink RL 112 yX6_does ∈ TB := tb_of (i := 1079) (by decide +kernel) rfl
theorem ml_L_120 : Cond.methodLink RL 120 yX6_told ∈ TB := tb_of (i := 1110) (by decide +kernel) rfl
theorem ml_L_125 : Cond.methodLink RL 125 yX6_digest ∈ TB := tb_of (i := 1118) (by decide +kernel) rfl
