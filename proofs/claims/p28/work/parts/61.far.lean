theorem par2 {f g a b : Int} (h1 : f = a + b) (h2 : g = a - b) : f * f + g * g = 2 * (a * a) + 2 * (b * b) := by
  subst h1 h2
  simp only [Int.add_mul, Int.mul_add, Int.sub_mul, Int.mul_sub, Int.mul_comm b a]
  omega
theorem sqn {a b : Int} (h : a = -b) : a * a = b * b := by rw [h, Int.neg_mul_neg]
theorem fb_h00_0 {f00 x00 x10 x20 x30 x40 x50 x60 x70 : Int} (e : f00 = x00 + x10 + x20 + x30 + x40 + x50 + x60 + x70) : f00 = x00 + x20 + x40 + x60 + (x10 + x30 + x50 + x70) := by omega
theorem fb_h40_1 {f40 x00 x10 x20 x30 x40 x50 x60 x70 : Int} (e : f40 = x00 - x10 + x20 - x30 + x40 - x50 + x60 - x70) : f40 = x00 + x20 + x40 + x60 - (x10 + x30 + x50 + x70) := by omega
theorem fb_h01_2 {f01 x01 x11 x21 x31 x41 x51 x61 x71 : Int} (e : f01 = x01 + x11 + x21 + x31 + x41 + x51 + x61 + x71) : f01 = x01 + x21 + x41 + x61 + (x11 + x31 + x51 + x71) := by omega
theorem fb_h41_3 {f41 x01 x11 x21 x31 x41 x51 x61 x71 : Int} (e : f41 = x01 - x11 + x21 - x31 + x41 - x51 + x61 - x71) : f41 = x01 + x21 + x41 + x61 - (x11 + x31 + x51 + x71) := by omega
theorem fb_h02_4 {f02 x02 x12 x22 x32 x42 x52 x62 x72 : Int} (e : f02 = x02 + x12 + x22 + x32 + x42 + x52 + x62 + x72) : f02 = x02 + x22 + x42 + x62 + (x12 + x32 + x52 + x72) := by omega
theorem fb_h42_5 {f42 x02 x12 x22 x32 x42 x52 x62 x72 : Int} (e : f42 = x02 - x12 + x22 - x32 + x42 - x52 + x62 - x72) : f42 = x02 + x22 + x42 + x62 - (x12 + x32 + x52 + x72) := by omega
theorem fb_h03_6 {f03 x03 x13 x23 x33 x43 x53 x63 x73 : Int} (e : f03 = x03 + x13 + x23 + x33 + x43 + x53 + x63 + x73) : f03 = x03 + x23 + x43 + x63 + (x13 + x33 + x53 + x73) := by omega
theorem fb_h43_7 {f43 x03 x13 x23 x33 x43 x53 x63 x73 : Int} (e : f43 = x03 - x13 + x23 - x33 + x43 - x53 + x63 - x73) : f43 = x03 + x23 + x43 + x63 - (x13 + x33 + x53 + x73) := by omega
theorem fb_h10_8 {f10 x00 x13 x22 x31 x40 x53 x62 x71 : Int} (e : f10 = x00 - x13 - x22 - x31 - x40 + x53 + x62 + x71) : f10 = x00 - x22 - x40 + x62 + (-x13 - x31 + x53 + x71) := by omega
theorem fb_h50_9 {f50 x00 x13 x22 x31 x40 x53 x62 x71 : Int} (e : f50 = x00 + x13 - x22 + x31 - x40 - x53 + x62 - x71) : f50 = x00 - x22 - x40 + x62 - (-x13 - x31 + x53 + x71) := by omega
theorem fb_h11_10 {f11 x01 x10 x23 x32 x41 x50 x63 x72 : Int} (e : f11 = x01 + x10 - x23 - x32 - x41 - x50 + x63 + x72) : f11 = x01 - x23 - x41 + x63 + (x10 - x32 - x50 + x72) := by omega
theorem fb_h51_11 {f51 x01 x10 x23 x32 x41 x50 x63 x72 : Int} (e : f51 = x01 - x10 - x23 + x32 - x41 + x50 + x63 - x72) : f51 = x01 - x23 - x41 + x63 - (x10 - x32 - x50 + x72) := by omega
theorem fb_h12_12 {f12 x02 x11 x20 x33 x42 x51 x60 x73 : Int} (e : f12 = x02 + x11 + x20 - x33 - x42 - x51 - x60 + x73) : f12 = x02 + x20 - x42 - x60 + (x11 - x33 - x51 + x73) := by omega
theorem fb_h52_13 {f52 x02 x11 x20 x33 x42 x51 x60 x73 : Int} (e : f52 = x02 - x11 + x20 + x33 - x42 + x51 - x60 - x73) : f52 = x02 + x20 - x42 - x60 - (x11 - x33 - x51 + x73) := by omega
theorem fb_h13_14 {f13 x03 x12 x21 x30 x43 x52 x61 x70 : Int} (e : f13 = x03 + x12 + x21 + x30 - x43 - x52 - x61 - x70) : f13 = x03 + x21 - x43 - x61 + (x12 + x30 - x52 - x70) := by omega
theorem fb_h53_15 {f53 x03 x12 x21 x30 x43 x52 x61 x70 : Int} (e : f53 = x03 - x12 + x21 - x30 - x43 + x52 - x61 + x70) : f53 = x03 + x21 - x43 - x61 - (x12 + x30 - x52 - x70) := by omega
theorem fb_h20_16 {f20 x00 x12 x20 x32 x40 x52 x60 x72 : Int} (e : f20 = x00 - x12 - x20 + x32 + x40 - x52 - x60 + x72) : f20 = x00 - x20 + x40 - x60 + (-x12 + x32 - x52 + x72) := by omega
theorem fb_h60_17 {f60 x00 x12 x20 x32 x40 x52 x60 x72 : Int} (e : f60 = x00 + x12 - x20 - x32 + x40 + x52 - x60 - x72) : f60 = x00 - x20 + x40 - x60 - (-x12 + x32 - x52 + x72) := by omega
theorem fb_h21_18 {f21 x01 x13 x21 x33 x41 x53 x61 x73 : Int} (e : f21 = x01 - x13 - x21 + x33 + x41 - x53 - x61 + x73) : f21 = x01 - x21 + x41 - x61 + (-x13 + x33 - x53 + x73) := by omega
theorem fb_h61_19 {f61 x01 x13 x21 x33 x41 x53 x61 x73 : Int} (e : f61 = x01 + x13 - x21 - x33 + x41 + x53 - x61 - x73) : f61 = x01 - x21 + x41 - x61 - (-x13 + x33 - x53 + x73) := by omega
theorem fb_h22_20 {f22 x02 x10 x22 x30 x42 x50 x62 x70 : Int} (e : f22 = x02 + x10 - x22 - x30 + x42 + x50 - x62 - x70) : f22 = x02 - x22 + x42 - x62 + (x10 - x30 + x50 - x70) := by omega
theorem fb_h62_21 {f62 x02 x10 x22 x30 x42 x50 x62 x70 : Int} (e : f62 = x02 - x10 - x22 + x30 + x42 - x50 - x62 + x70) : f62 = x02 - x22 + x42 - x62 - (x10 - x30 + x50 - x70) := by omega
theorem fb_h23_22 {f23 x03 x11 x23 x31 x43 x51 x63 x71 : Int} (e : f23 = x03 + x11 - x23 - x31 + x43 + x51 - x63 - x71) : f23 = x03 - x23 + x43 - x63 + (x11 - x31 + x51 - x71) := by omega
theorem fb_h63_23 {f63 x03 x11 x23 x31 x43 x51 x63 x71 : Int} (e : f63 = x03 - x11 - x23 + x31 + x43 - x51 - x63 + x71) : f63 = x03 - x23 + x43 - x63 - (x11 - x31 + x51 - x71) := by omega
theorem fb_h30_24 {f30 x00 x11 x22 x33 x40 x51 x62 x73 : Int} (e : f30 = x00 - x11 + x22 - x33 - x40 + x51 - x62 + x73) : f30 = x00 + x22 - x40 - x62 + (-x11 - x33 + x51 + x73) := by omega
theorem fb_h70_25 {f70 x00 x11 x22 x33 x40 x51 x62 x73 : Int} (e : f70 = x00 + x11 + x22 + x33 - x40 - x51 - x62 - x73) : f70 = x00 + x22 - x40 - x62 - (-x11 - x33 + x51 + x73) := by omega
theorem fb_h31_26 {f31 x01 x12 x23 x30 x41 x52 x63 x70 : Int} (e : f31 = x01 - x12 + x23 + x30 - x41 + x52 - x63 - x70) : f31 = x01 + x23 - x41 - x63 + (-x12 + x30 + x52 - x70) := by omega
theorem fb_h71_27 {f71 x01 x12 x23 x30 x41 x52 x63 x70 : Int} (e : f71 = x01 + x12 + x23 - x30 - x41 - x52 - x63 + x70) : f71 = x01 + x23 - x41 - x63 - (-x12 + x30 + x52 - x70) := by omega
theorem fb_h32_28 {f32 x02 x13 x20 x31 x42 x53 x60 x71 : Int} (e : f32 = x02 - x13 - x20 + x31 - x42 + x53 + x60 - x71) : f32 = x02 - x20 - x42 + x60 + (-x13 + x31 + x53 - x71) := by omega
theorem fb_h72_29 {f72 x02 x13 x20 x31 x42 x53 x60 x71 : Int} (e : f72 = x02 + x13 - x20 - x31 - x42 - x53 + x60 + x71) : f72 = x02 - x20 - x42 + x60 - (-x13 + x31 + x53 - x71) := by omega
theorem fb_h33_30 {f33 x03 x10 x21 x32 x43 x50 x61 x72 : Int} (e : f33 = x03 + x10 - x21 + x32 - x43 - x50 + x61 - x72) : f33 = x03 - x21 - x43 + x61 + (x10 + x32 - x50 - x72) := by omega
theorem fb_h73_31 {f73 x03 x10 x21 x32 x43 x50 x61 x72 : Int} (e : f73 = x03 - x10 - x21 - x32 - x43 + x50 + x61 + x72) : f73 = x03 - x21 - x43 + x61 - (x10 + x32 - x50 - x72) := by omega
theorem fb_he00_32 {e00 x00 x20 x40 x60 : Int} (e : x00 + x20 + x40 + x60 = e00) : e00 = x00 + x40 + (x20 + x60) := by omega
theorem fb_he20_33 {e20 x00 x20 x40 x60 : Int} (e : x00 - x20 + x40 - x60 = e20) : e20 = x00 + x40 - (x20 + x60) := by omega
theorem fb_he01_34 {e01 x01 x21 x41 x61 : Int} (e : x01 + x21 + x41 + x61 = e01) : e01 = x01 + x41 + (x21 + x61) := by omega
theorem fb_he21_35 {e21 x01 x21 x41 x61 : Int} (e : x01 - x21 + x41 - x61 = e21) : e21 = x01 + x41 - (x21 + x61) := by omega
theorem fb_he02_36 {e02 x02 x22 x42 x62 : Int} (e : x02 + x22 + x42 + x62 = e02) : e02 = x02 + x42 + (x22 + x62) := by omega
theorem fb_he22_37 {e22 x02 x22 x42 x62 : Int} (e : x02 - x22 + x42 - x62 = e22) : e22 = x02 + x42 - (x22 + x62) := by omega
theorem fb_he03_38 {e03 x03 x23 x43 x63 : Int} (e : x03 + x23 + x43 + x63 = e03) : e03 = x03 + x43 + (x23 + x63) := by omega
theorem fb_he23_39 {e23 x03 x23 x43 x63 : Int} (e : x03 - x23 + x43 - x63 = e23) : e23 = x03 + x43 - (x23 + x63) := by omega
theorem fb_he10_40 {e10 x00 x22 x40 x62 : Int} (e : x00 - x22 - x40 + x62 = e10) : e10 = x00 - x40 + (-x22 + x62) := by omega
theorem fb_he30_41 {e30 x00 x22 x40 x62 : Int} (e : x00 + x22 - x40 - x62 = e30) : e30 = x00 - x40 - (-x22 + x62) := by omega
theorem fb_he11_42 {e11 x01 x23 x41 x63 : Int} (e : x01 - x23 - x41 + x63 = e11) : e11 = x01 - x41 + (-x23 + x63) := by omega
theorem fb_he31_43 {e31 x01 x23 x41 x63 : Int} (e : x01 + x23 - x41 - x63 = e31) : e31 = x01 - x41 - (-x23 + x63) := by omega
theorem fb_he12_44 {e12 x02 x20 x42 x60 : Int} (e : x02 + x20 - x42 - x60 = e12) : e12 = x02 - x42 + (x20 - x60) := by omega
theorem fb_he32_45 {e32 x02 x20 x42 x60 : Int} (e : x02 - x20 - x42 + x60 = e32) : e32 = x02 - x42 - (x20 - x60) := by omega
theorem fb_he13_46 {e13 x03 x21 x43 x61 : Int} (e : x03 + x21 - x43 - x61 = e13) : e13 = x03 - x43 + (x21 - x61) := by omega
theorem fb_he33_47 {e33 x03 x21 x43 x61 : Int} (e : x03 - x21 - x43 + x61 = e33) : e33 = x03 - x43 - (x21 - x61) := by omega
theorem fb_hd00_48 {d00 x10 x30 x50 x70 : Int} (e : x10 + x30 + x50 + x70 = d00) : d00 = x10 + x50 + (x30 + x70) := by omega
theorem fb_hd22_49 {d22 x10 x30 x50 x70 : Int} (e : x10 - x30 + x50 - x70 = d22) : d22 = x10 + x50 - (x30 + x70) := by omega
theorem fb_hd01_50 {d01 x11 x31 x51 x71 : Int} (e : x11 + x31 + x51 + x71 = d01) : d01 = x11 + x51 + (x31 + x71) := by omega
theorem fb_hd23_51 {d23 x11 x31 x51 x71 : Int} (e : x11 - x31 + x51 - x71 = d23) : d23 = x11 + x51 - (x31 + x71) := by omega
theorem fb_hd02_52 {d02 x12 x32 x52 x72 : Int} (e : x12 + x32 + x52 + x72 = d02) : d02 = x12 + x52 + (x32 + x72) := by omega
theorem fb_hd20_53 {d20 x12 x32 x52 x72 : Int} (e : -x12 + x32 - x52 + x72 = d20) : -d20 = x12 + x52 - (x32 + x72) := by omega
theorem fb_hd03_54 {d03 x13 x33 x53 x73 : Int} (e : x13 + x33 + x53 + x73 = d03) : d03 = x13 + x53 + (x33 + x73) := by omega
theorem fb_hd21_55 {d21 x13 x33 x53 x73 : Int} (e : -x13 + x33 - x53 + x73 = d21) : -d21 = x13 + x53 - (x33 + x73) := by omega
theorem fb_hd10_56 {d10 x13 x31 x53 x71 : Int} (e : -x13 - x31 + x53 + x71 = d10) : d10 = -x13 + x53 + (-x31 + x71) := by omega
theorem fb_hd32_57 {d32 x13 x31 x53 x71 : Int} (e : -x13 + x31 + x53 - x71 = d32) : d32 = -x13 + x53 - (-x31 + x71) := by omega
theorem fb_hd11_58 {d11 x10 x32 x50 x72 : Int} (e : x10 - x32 - x50 + x72 = d11) : d11 = x10 - x50 + (-x32 + x72) := by omega
theorem fb_hd33_59 {d33 x10 x32 x50 x72 : Int} (e : x10 + x32 - x50 - x72 = d33) : d33 = x10 - x50 - (-x32 + x72) := by omega
theorem fb_hd12_60 {d12 x11 x33 x51 x73 : Int} (e : x11 - x33 - x51 + x73 = d12) : d12 = x11 - x51 + (-x33 + x73) := by omega
theorem fb_hd30_61 {d30 x11 x33 x51 x73 : Int} (e : -x11 - x33 + x51 + x73 = d30) : -d30 = x11 - x51 - (-x33 + x73) := by omega
theorem fb_hd13_62 {d13 x12 x30 x52 x70 : Int} (e : x12 + x30 - x52 - x70 = d13) : d13 = x12 - x52 + (x30 - x70) := by omega
theorem fb_hd31_63 {d31 x12 x30 x52 x70 : Int} (e : -x12 + x30 + x52 - x70 = d31) : -d31 = x12 - x52 - (x30 - x70) := by omega
theorem fb_hae00_64 {ae00 x00 x40 : Int} (e : x00 + x40 = ae00) : ae00 = x00 + (x40) := by omega
theorem fb_hae10_65 {ae10 x00 x40 : Int} (e : x00 - x40 = ae10) : ae10 = x00 - (x40) := by omega
theorem fb_hae01_66 {ae01 x01 x41 : Int} (e : x01 + x41 = ae01) : ae01 = x01 + (x41) := by omega
theorem fb_hae11_67 {ae11 x01 x41 : Int} (e : x01 - x41 = ae11) : ae11 = x01 - (x41) := by omega
theorem fb_hae02_68 {ae02 x02 x42 : Int} (e : x02 + x42 = ae02) : ae02 = x02 + (x42) := by omega
theorem fb_hae12_69 {ae12 x02 x42 : Int} (e : x02 - x42 = ae12) : ae12 = x02 - (x42) := by omega
theorem fb_hae03_70 {ae03 x03 x43 : Int} (e : x03 + x43 = ae03) : ae03 = x03 + (x43) := by omega
theorem fb_hae13_71 {ae13 x03 x43 : Int} (e : x03 - x43 = ae13) : ae13 = x03 - (x43) := by omega
theorem fb_hbe00_72 {be00 x20 x60 : Int} (e : x20 + x60 = be00) : be00 = x20 + (x60) := by omega
theorem fb_hbe12_73 {be12 x20 x60 : Int} (e : x20 - x60 = be12) : be12 = x20 - (x60) := by omega
theorem fb_hbe01_74 {be01 x21 x61 : Int} (e : x21 + x61 = be01) : be01 = x21 + (x61) := by omega
theorem fb_hbe13_75 {be13 x21 x61 : Int} (e : x21 - x61 = be13) : be13 = x21 - (x61) := by omega
theorem fb_hbe02_76 {be02 x22 x62 : Int} (e : x22 + x62 = be02) : be02 = x22 + (x62) := by omega
theorem fb_hbe10_77 {be10 x22 x62 : Int} (e : -x22 + x62 = be10) : -be10 = x22 - (x62) := by omega
theorem fb_hbe03_78 {be03 x23 x63 : Int} (e : x23 + x63 = be03) : be03 = x23 + (x63) := by omega
theorem fb_hbe11_79 {be11 x23 x63 : Int} (e : -x23 + x63 = be11) : -be11 = x23 - (x63) := by omega
theorem fb_had00_80 {ad00 x10 x50 : Int} (e : x10 + x50 = ad00) : ad00 = x10 + (x50) := by omega
theorem fb_had11_81 {ad11 x10 x50 : Int} (e : x10 - x50 = ad11) : ad11 = x10 - (x50) := by omega
theorem fb_had01_82 {ad01 x11 x51 : Int} (e : x11 + x51 = ad01) : ad01 = x11 + (x51) := by omega
theorem fb_had12_83 {ad12 x11 x51 : Int} (e : x11 - x51 = ad12) : ad12 = x11 - (x51) := by omega
theorem fb_had02_84 {ad02 x12 x52 : Int} (e : x12 + x52 = ad02) : ad02 = x12 + (x52) := by omega
theorem fb_had13_85 {ad13 x12 x52 : Int} (e : x12 - x52 = ad13) : ad13 = x12 - (x52) := by omega
theorem fb_had03_86 {ad03 x13 x53 : Int} (e : x13 + x53 = ad03) : ad03 = x13 + (x53) := by omega
theorem fb_had10_87 {ad10 x13 x53 : Int} (e : -x13 + x53 = ad10) : -ad10 = x13 - (x53) := by omega
theorem fb_hbd00_88 {bd00 x30 x70 : Int} (e : x30 + x70 = bd00) : bd00 = x30 + (x70) := by omega
theorem fb_hbd13_89 {bd13 x30 x70 : Int} (e : x30 - x70 = bd13) : bd13 = x30 - (x70) := by omega
theorem fb_hbd01_90 {bd01 x31 x71 : Int} (e : x31 + x71 = bd01) : bd01 = x31 + (x71) := by omega
theorem fb_hbd10_91 {bd10 x31 x71 : Int} (e : -x31 + x71 = bd10) : -bd10 = x31 - (x71) := by omega
theorem fb_hbd02_92 {bd02 x32 x72 : Int} (e : x32 + x72 = bd02) : bd02 = x32 + (x72) := by omega
theorem fb_hbd11_93 {bd11 x32 x72 : Int} (e : -x32 + x72 = bd11) : -bd11 = x32 - (x72) := by omega
theorem fb_hbd03_94 {bd03 x33 x73 : Int} (e : x33 + x73 = bd03) : bd03 = x33 + (x73) := by omega
theorem fb_hbd12_95 {bd12 x33 x73 : Int} (e : -x33 + x73 = bd12) : -bd12 = x33 - (x73) := by omega
theorem far_t1_ {qf00 qf01 qf02 qf03 qf10 qf11 qf12 qf13 qf20 qf21 qf22 qf23 qf30 qf31 qf32 qf33 qf40 qf41 qf42 qf43 qf50 qf51 qf52 qf53 qf60 qf61 qf62 qf63 qf70 qf71 qf72 qf73 qe00 qe01 qe02 qe03 qe10 qe11 qe12 qe13 qe20 qe21 qe22 qe23 qe30 qe31 qe32 qe33 qd00 qd01 qd02 qd03 qd10 qd11 qd12 qd13 qd20 qd21 qd22 qd23 qd30 qd31 qd32 qd33 : Int} (a00 : qf00 + qf40 = 2 * qe00 + 2 * qd00) (a01 : qf01 + qf41 = 2 * qe01 + 2 * qd01) (a02 : qf02 + qf42 = 2 * qe02 + 2 * qd02) (a03 : qf03 + qf43 = 2 * qe03 + 2 * qd03) (a10 : qf10 + qf50 = 2 * qe10 + 2 * qd10) (a11 : qf11 + qf51 = 2 * qe11 + 2 * qd11) (a12 : qf12 + qf52 = 2 * qe12 + 2 * qd12) (a13 : qf13 + qf53 = 2 * qe13 + 2 * qd13) (a20 : qf20 + qf60 = 2 * qe20 + 2 * qd20) (a21 : qf21 + qf61 = 2 * qe21 + 2 * qd21) (a22 : qf22 + qf62 = 2 * qe22 + 2 * qd22) (a23 : qf23 + qf63 = 2 * qe23 + 2 * qd23) (a30 : qf30 + qf70 = 2 * qe30 + 2 * qd30) (a31 : qf31 + qf71 = 2 * qe31 + 2 * qd31) (a32 : qf32 + qf72 = 2 * qe32 + 2 * qd32) (a33 : qf33 + qf73 = 2 * qe33 + 2 * qd33) : qf00 + qf01 + qf02 + qf03 + qf10 + qf11 + qf12 + qf13 + qf20 + qf21 + qf22 + qf23 + qf30 + qf31 + qf32 + qf33 + qf40 + qf41 + qf42 + qf43 + qf50 + qf51 + qf52 + qf53 + qf60 + qf61 + qf62 + qf63 + qf70 + qf71 + qf72 + qf73 = 2 * (qe00 + qe01 + qe02 + qe03 + qe10 + qe11 + qe12 + qe13 + qe20 + qe21 + qe22 + qe23 + qe30 + qe31 + qe32 + qe33 + qd00 + qd01 + qd02 + qd03 + qd10 + qd11 + qd12 + qd13 + qd20 + qd21 + qd22 + qd23 + qd30 + qd31 + qd32 + qd33) := by omega
theorem far_t2_ {qe00 qe01 qe02 qe03 qe10 qe11 qe12 qe13 qe20 qe21 qe22 qe23 qe30 qe31 qe32 qe33 qd00 qd01 qd02 qd03 qd10 qd11 qd12 qd13 qd20 qd21 qd22 qd23 qd30 qd31 qd32 qd33 qae00 qae01 qae02 qae03 qae10 qae11 qae12 qae13 qbe00 qbe01 qbe02 qbe03 qbe10 qbe11 qbe12 qbe13 qad00 qad01 qad02 qad03 qad10 qad11 qad12 qad13 qbd00 qbd01 qbd02 qbd03 qbd10 qbd11 qbd12 qbd13 : Int} (ye00 : qe00 + qe20 = 2 * qae00 + 2 * qbe00) (ye01 : qe01 + qe21 = 2 * qae01 + 2 * qbe01) (ye02 : qe02 + qe22 = 2 * qae02 + 2 * qbe02) (ye03 : qe03 + qe23 = 2 * qae03 + 2 * qbe03) (ye10 : qe10 + qe30 = 2 * qae10 + 2 * qbe10) (ye11 : qe11 + qe31 = 2 * qae11 + 2 * qbe11) (ye12 : qe12 + qe32 = 2 * qae12 + 2 * qbe12) (ye13 : qe13 + qe33 = 2 * qae13 + 2 * qbe13) (yd00 : qd00 + qd22 = 2 * qad00 + 2 * qbd00) (yd01 : qd01 + qd23 = 2 * qad01 + 2 * qbd01) (yd02 : qd02 + qd20 = 2 * qad02 + 2 * qbd02) (yd03 : qd03 + qd21 = 2 * qad03 + 2 * qbd03) (yd10 : qd10 + qd32 = 2 * qad10 + 2 * qbd10) (yd11 : qd11 + qd33 = 2 * qad11 + 2 * qbd11) (yd12 : qd12 + qd30 = 2 * qad12 + 2 * qbd12) (yd13 : qd13 + qd31 = 2 * qad13 + 2 * qbd13) : qe00 + qe01 + qe02 + qe03 + qe10 + qe11 + qe12 + qe13 + qe20 + qe21 + qe22 + qe23 + qe30 + qe31 + qe32 + qe33 + qd00 + qd01 + qd02 + qd03 + qd10 + qd11 + qd12 + qd13 + qd20 + qd21 + qd22 + qd23 + qd30 + qd31 + qd32 + qd33 = 2 * (qae00 + qae01 + qae02 + qae03 + qae10 + qae11 + qae12 + qae13 + qbe00 + qbe01 + qbe02 + qbe03 + qbe10 + qbe11 + qbe12 + qbe13 + qad00 + qad01 + qad02 + qad03 + qad10 + qad11 + qad12 + qad13 + qbd00 + qbd01 + qbd02 + qbd03 + qbd10 + qbd11 + qbd12 + qbd13) := by omega
theorem far_t3_ {qae00 qae01 qae02 qae03 qae10 qae11 qae12 qae13 qbe00 qbe01 qbe02 qbe03 qbe10 qbe11 qbe12 qbe13 qad00 qad01 qad02 qad03 qad10 qad11 qad12 qad13 qbd00 qbd01 qbd02 qbd03 qbd10 qbd11 qbd12 qbd13 qx00 qx01 qx02 qx03 qx10 qx11 qx12 qx13 qx20 qx21 qx22 qx23 qx30 qx31 qx32 qx33 qx40 qx41 qx42 qx43 qx50 qx51 qx52 qx53 qx60 qx61 qx62 qx63 qx70 qx71 qx72 qx73 : Int} (cae0 : qae00 + qae10 = 2 * qx00 + 2 * qx40) (cae1 : qae01 + qae11 = 2 * qx01 + 2 * qx41) (cae2 : qae02 + qae12 = 2 * qx02 + 2 * qx42) (cae3 : qae03 + qae13 = 2 * qx03 + 2 * qx43) (cbe0 : qbe00 + qbe12 = 2 * qx20 + 2 * qx60) (cbe1 : qbe01 + qbe13 = 2 * qx21 + 2 * qx61) (cbe2 : qbe02 + qbe10 = 2 * qx22 + 2 * qx62) (cbe3 : qbe03 + qbe11 = 2 * qx23 + 2 * qx63) (cad0 : qad00 + qad11 = 2 * qx10 + 2 * qx50) (cad1 : qad01 + qad12 = 2 * qx11 + 2 * qx51) (cad2 : qad02 + qad13 = 2 * qx12 + 2 * qx52) (cad3 : qad03 + qad10 = 2 * qx13 + 2 * qx53) (cbd0 : qbd00 + qbd13 = 2 * qx30 + 2 * qx70) (cbd1 : qbd01 + qbd10 = 2 * qx31 + 2 * qx71) (cbd2 : qbd02 + qbd11 = 2 * qx32 + 2 * qx72) (cbd3 : qbd03 + qbd12 = 2 * qx33 + 2 * qx73) : qae00 + qae01 + qae02 + qae03 + qae10 + qae11 + qae12 + qae13 + qbe00 + qbe01 + qbe02 + qbe03 + qbe10 + qbe11 + qbe12 + qbe13 + qad00 + qad01 + qad02 + qad03 + qad10 + qad11 + qad12 + qad13 + qbd00 + qbd01 + qbd02 + qbd03 + qbd10 + qbd11 + qbd12 + qbd13 = 2 * (qx00 + qx01 + qx02 + qx03 + qx10 + qx11 + qx12 + qx13 + qx20 + qx21 + qx22 + qx23 + qx30 + qx31 + qx32 + qx33 + qx40 + qx41 + qx42 + qx43 + qx50 + qx51 + qx52 + qx53 + qx60 + qx61 + qx62 + qx63 + qx70 + qx71 + qx72 + qx73) := by omega
theorem far_t4 (z : Int) : 2 * (2 * (2 * z)) = 8 * z := by omega
set_option maxHeartbeats 4000000 in
set_option maxRecDepth 100000 in
theorem far_sq (x00 x01 x02 x03 x10 x11 x12 x13 x20 x21 x22 x23 x30 x31 x32 x33 x40 x41 x42 x43 x50 x51 x52 x53 x60 x61 x62 x63 x70 x71 x72 x73 : Int) (f00 f01 f02 f03 f10 f11 f12 f13 f20 f21 f22 f23 f30 f31 f32 f33 f40 f41 f42 f43 f50 f51 f52 f53 f60 f61 f62 f63 f70 f71 f72 f73 : Int) (h00 : f00 = x00 + x10 + x20 + x30 + x40 + x50 + x60 + x70) (h01 : f01 = x01 + x11 + x21 + x31 + x41 + x51 + x61 + x71) (h02 : f02 = x02 + x12 + x22 + x32 + x42 + x52 + x62 + x72) (h03 : f03 = x03 + x13 + x23 + x33 + x43 + x53 + x63 + x73) (h10 : f10 = x00 - x13 - x22 - x31 - x40 + x53 + x62 + x71) (h11 : f11 = x01 + x10 - x23 - x32 - x41 - x50 + x63 + x72) (h12 : f12 = x02 + x11 + x20 - x33 - x42 - x51 - x60 + x73) (h13 : f13 = x03 + x12 + x21 + x30 - x43 - x52 - x61 - x70) (h20 : f20 = x00 - x12 - x20 + x32 + x40 - x52 - x60 + x72) (h21 : f21 = x01 - x13 - x21 + x33 + x41 - x53 - x61 + x73) (h22 : f22 = x02 + x10 - x22 - x30 + x42 + x50 - x62 - x70) (h23 : f23 = x03 + x11 - x23 - x31 + x43 + x51 - x63 - x71) (h30 : f30 = x00 - x11 + x22 - x33 - x40 + x51 - x62 + x73) (h31 : f31 = x01 - x12 + x23 + x30 - x41 + x52 - x63 - x70) (h32 : f32 = x02 - x13 - x20 + x31 - x42 + x53 + x60 - x71) (h33 : f33 = x03 + x10 - x21 + x32 - x43 - x50 + x61 - x72) (h40 : f40 = x00 - x10 + x20 - x30 + x40 - x50 + x60 - x70) (h41 : f41 = x01 - x11 + x21 - x31 + x41 - x51 + x61 - x71) (h42 : f42 = x02 - x12 + x22 - x32 + x42 - x52 + x62 - x72) (h43 : f43 = x03 - x13 + x23 - x33 + x43 - x53 + x63 - x73) (h50 : f50 = x00 + x13 - x22 + x31 - x40 - x53 + x62 - x71) (h51 : f51 = x01 - x10 - x23 + x32 - x41 + x50 + x63 - x72) (h52 : f52 = x02 - x11 + x20 + x33 - x42 + x51 - x60 - x73) (h53 : f53 = x03 - x12 + x21 - x30 - x43 + x52 - x61 + x70) (h60 : f60 = x00 + x12 - x20 - x32 + x40 + x52 - x60 - x72) (h61 : f61 = x01 + x13 - x21 - x33 + x41 + x53 - x61 - x73) (h62 : f62 = x02 - x10 - x22 + x30 + x42 - x50 - x62 + x70) (h63 : f63 = x03 - x11 - x23 + x31 + x43 - x51 - x63 + x71) (h70 : f70 = x00 + x11 + x22 + x33 - x40 - x51 - x62 - x73) (h71 : f71 = x01 + x12 + x23 - x30 - x41 - x52 - x63 + x70) (h72 : f72 = x02 + x13 - x20 - x31 - x42 - x53 + x60 + x71) (h73 : f73 = x03 - x10 - x21 - x32 - x43 + x50 + x61 + x72) : f00 * f00 + f01 * f01 + f02 * f02 + f03 * f03 + f10 * f10 + f11 * f11 + f12 * f12 + f13 * f13 + f20 * f20 + f21 * f21 + f22 * f22 + f23 * f23 + f30 * f30 + f31 * f31 + f32 * f32 + f33 * f33 + f40 * f40 + f41 * f41 + f42 * f42 + f43 * f43 + f50 * f50 + f51 * f51 + f52 * f52 + f53 * f53 + f60 * f60 + f61 * f61 + f62 * f62 + f63 * f63 + f70 * f70 + f71 * f71 + f72 * f72 + f73 * f73 = 8 * (x00 * x00 + x01 * x01 + x02 * x02 + x03 * x03 + x10 * x10 + x11 * x11 + x12 * x12 + x13 * x13 + x20 * x20 + x21 * x21 + x22 * x22 + x23 * x23 + x30 * x30 + x31 * x31 + x32 * x32 + x33 * x33 + x40 * x40 + x41 * x41 + x42 * x42 + x43 * x43 + x50 * x50 + x51 * x51 + x52 * x52 + x53 * x53 + x60 * x60 + x61 * x61 + x62 * x62 + x63 * x63 + x70 * x70 + x71 * x71 + x72 * x72 + x73 * x73) := by
  have a00 := par2 (f := f00) (g := f40) (a := x00 + x20 + x40 + x60) (b := x10 + x30 + x50 + x70) (fb_h00_0 h00) (fb_h40_1 h40)
  have a01 := par2 (f := f01) (g := f41) (a := x01 + x21 + x41 + x61) (b := x11 + x31 + x51 + x71) (fb_h01_2 h01) (fb_h41_3 h41)
  have a02 := par2 (f := f02) (g := f42) (a := x02 + x22 + x42 + x62) (b := x12 + x32 + x52 + x72) (fb_h02_4 h02) (fb_h42_5 h42)
  have a03 := par2 (f := f03) (g := f43) (a := x03 + x23 + x43 + x63) (b := x13 + x33 + x53 + x73) (fb_h03_6 h03) (fb_h43_7 h43)
  have a10 := par2 (f := f10) (g := f50) (a := x00 - x22 - x40 + x62) (b := -x13 - x31 + x53 + x71) (fb_h10_8 h10) (fb_h50_9 h50)
  have a11 := par2 (f := f11) (g := f51) (a := x01 - x23 - x41 + x63) (b := x10 - x32 - x50 + x72) (fb_h11_10 h11) (fb_h51_11 h51)
  have a12 := par2 (f := f12) (g := f52) (a := x02 + x20 - x42 - x60) (b := x11 - x33 - x51 + x73) (fb_h12_12 h12) (fb_h52_13 h52)
  have a13 := par2 (f := f13) (g := f53) (a := x03 + x21 - x43 - x61) (b := x12 + x30 - x52 - x70) (fb_h13_14 h13) (fb_h53_15 h53)
  have a20 := par2 (f := f20) (g := f60) (a := x00 - x20 + x40 - x60) (b := -x12 + x32 - x52 + x72) (fb_h20_16 h20) (fb_h60_17 h60)
  have a21 := par2 (f := f21) (g := f61) (a := x01 - x21 + x41 - x61) (b := -x13 + x33 - x53 + x73) (fb_h21_18 h21) (fb_h61_19 h61)
  have a22 := par2 (f := f22) (g := f62) (a := x02 - x22 + x42 - x62) (b := x10 - x30 + x50 - x70) (fb_h22_20 h22) (fb_h62_21 h62)
  have a23 := par2 (f := f23) (g := f63) (a := x03 - x23 + x43 - x63) (b := x11 - x31 + x51 - x71) (fb_h23_22 h23) (fb_h63_23 h63)
  have a30 := par2 (f := f30) (g := f70) (a := x00 + x22 - x40 - x62) (b := -x11 - x33 + x51 + x73) (fb_h30_24 h30) (fb_h70_25 h70)
  have a31 := par2 (f := f31) (g := f71) (a := x01 + x23 - x41 - x63) (b := -x12 + x30 + x52 - x70) (fb_h31_26 h31) (fb_h71_27 h71)
  have a32 := par2 (f := f32) (g := f72) (a := x02 - x20 - x42 + x60) (b := -x13 + x31 + x53 - x71) (fb_h32_28 h32) (fb_h72_29 h72)
  have a33 := par2 (f := f33) (g := f73) (a := x03 - x21 - x43 + x61) (b := x10 + x32 - x50 - x72) (fb_h33_30 h33) (fb_h73_31 h73)
  generalize he00 : x00 + x20 + x40 + x60 = e00 at a00
  generalize hd00 : x10 + x30 + x50 + x70 = d00 at a00
  generalize he01 : x01 + x21 + x41 + x61 = e01 at a01
  generalize hd01 : x11 + x31 + x51 + x71 = d01 at a01
  generalize he02 : x02 + x22 + x42 + x62 = e02 at a02
  generalize hd02 : x12 + x32 + x52 + x72 = d02 at a02
  generalize he03 : x03 + x23 + x43 + x63 = e03 at a03
  generalize hd03 : x13 + x33 + x53 + x73 = d03 at a03
  generalize he10 : x00 - x22 - x40 + x62 = e10 at a10
  generalize hd10 : -x13 - x31 + x53 + x71 = d10 at a10
  generalize he11 : x01 - x23 - x41 + x63 = e11 at a11
  generalize hd11 : x10 - x32 - x50 + x72 = d11 at a11
  generalize he12 : x02 + x20 - x42 - x60 = e12 at a12
  generalize hd12 : x11 - x33 - x51 + x73 = d12 at a12
  generalize he13 : x03 + x21 - x43 - x61 = e13 at a13
  generalize hd13 : x12 + x30 - x52 - x70 = d13 at a13
  generalize he20 : x00 - x20 + x40 - x60 = e20 at a20
  generalize hd20 : -x12 + x32 - x52 + x72 = d20 at a20
  generalize he21 : x01 - x21 + x41 - x61 = e21 at a21
  generalize hd21 : -x13 + x33 - x53 + x73 = d21 at a21
  generalize he22 : x02 - x22 + x42 - x62 = e22 at a22
  generalize hd22 : x10 - x30 + x50 - x70 = d22 at a22
  generalize he23 : x03 - x23 + x43 - x63 = e23 at a23
  generalize hd23 : x11 - x31 + x51 - x71 = d23 at a23
  generalize he30 : x00 + x22 - x40 - x62 = e30 at a30
  generalize hd30 : -x11 - x33 + x51 + x73 = d30 at a30
  generalize he31 : x01 + x23 - x41 - x63 = e31 at a31
  generalize hd31 : -x12 + x30 + x52 - x70 = d31 at a31
  generalize he32 : x02 - x20 - x42 + x60 = e32 at a32
  generalize hd32 : -x13 + x31 + x53 - x71 = d32 at a32
  generalize he33 : x03 - x21 - x43 + x61 = e33 at a33
  generalize hd33 : x10 + x32 - x50 - x72 = d33 at a33
  have ye00 := par2 (f := e00) (g := e20) (a := x00 + x40) (b := x20 + x60) (fb_he00_32 he00) (fb_he20_33 he20)
  have ye01 := par2 (f := e01) (g := e21) (a := x01 + x41) (b := x21 + x61) (fb_he01_34 he01) (fb_he21_35 he21)
  have ye02 := par2 (f := e02) (g := e22) (a := x02 + x42) (b := x22 + x62) (fb_he02_36 he02) (fb_he22_37 he22)
  have ye03 := par2 (f := e03) (g := e23) (a := x03 + x43) (b := x23 + x63) (fb_he03_38 he03) (fb_he23_39 he23)
  have ye10 := par2 (f := e10) (g := e30) (a := x00 - x40) (b := -x22 + x62) (fb_he10_40 he10) (fb_he30_41 he30)
  have ye11 := par2 (f := e11) (g := e31) (a := x01 - x41) (b := -x23 + x63) (fb_he11_42 he11) (fb_he31_43 he31)
  have ye12 := par2 (f := e12) (g := e32) (a := x02 - x42) (b := x20 - x60) (fb_he12_44 he12) (fb_he32_45 he32)
  have ye13 := par2 (f := e13) (g := e33) (a := x03 - x43) (b := x21 - x61) (fb_he13_46 he13) (fb_he33_47 he33)
  have yd00 := par2 (f := d00) (g := d22) (a := x10 + x50) (b := x30 + x70) (fb_hd00_48 hd00) (fb_hd22_49 hd22)
  have yd01 := par2 (f := d01) (g := d23) (a := x11 + x51) (b := x31 + x71) (fb_hd01_50 hd01) (fb_hd23_51 hd23)
  have yd02 := par2 (f := d02) (g := -d20) (a := x12 + x52) (b := x32 + x72) (fb_hd02_52 hd02) (fb_hd20_53 hd20)
  rw [Int.neg_mul_neg] at yd02
  have yd03 := par2 (f := d03) (g := -d21) (a := x13 + x53) (b := x33 + x73) (fb_hd03_54 hd03) (fb_hd21_55 hd21)
  rw [Int.neg_mul_neg] at yd03
  have yd10 := par2 (f := d10) (g := d32) (a := -x13 + x53) (b := -x31 + x71) (fb_hd10_56 hd10) (fb_hd32_57 hd32)
  have yd11 := par2 (f := d11) (g := d33) (a := x10 - x50) (b := -x32 + x72) (fb_hd11_58 hd11) (fb_hd33_59 hd33)
  have yd12 := par2 (f := d12) (g := -d30) (a := x11 - x51) (b := -x33 + x73) (fb_hd12_60 hd12) (fb_hd30_61 hd30)
  rw [Int.neg_mul_neg] at yd12
  have yd13 := par2 (f := d13) (g := -d31) (a := x12 - x52) (b := x30 - x70) (fb_hd13_62 hd13) (fb_hd31_63 hd31)
  rw [Int.neg_mul_neg] at yd13
  generalize hae00 : x00 + x40 = ae00 at ye00
  generalize hbe00 : x20 + x60 = be00 at ye00
  generalize hae01 : x01 + x41 = ae01 at ye01
  generalize hbe01 : x21 + x61 = be01 at ye01
  generalize hae02 : x02 + x42 = ae02 at ye02
  generalize hbe02 : x22 + x62 = be02 at ye02
  generalize hae03 : x03 + x43 = ae03 at ye03
  generalize hbe03 : x23 + x63 = be03 at ye03
  generalize hae10 : x00 - x40 = ae10 at ye10
  generalize hbe10 : -x22 + x62 = be10 at ye10
  generalize hae11 : x01 - x41 = ae11 at ye11
  generalize hbe11 : -x23 + x63 = be11 at ye11
  generalize hae12 : x02 - x42 = ae12 at ye12
  generalize hbe12 : x20 - x60 = be12 at ye12
  generalize hae13 : x03 - x43 = ae13 at ye13
  generalize hbe13 : x21 - x61 = be13 at ye13
  generalize had00 : x10 + x50 = ad00 at yd00
  generalize hbd00 : x30 + x70 = bd00 at yd00
  generalize had01 : x11 + x51 = ad01 at yd01
  generalize hbd01 : x31 + x71 = bd01 at yd01
  generalize had02 : x12 + x52 = ad02 at yd02
  generalize hbd02 : x32 + x72 = bd02 at yd02
  generalize had03 : x13 + x53 = ad03 at yd03
  generalize hbd03 : x33 + x73 = bd03 at yd03
  generalize had10 : -x13 + x53 = ad10 at yd10
  generalize hbd10 : -x31 + x71 = bd10 at yd10
  generalize had11 : x10 - x50 = ad11 at yd11
  generalize hbd11 : -x32 + x72 = bd11 at yd11
  generalize had12 : x11 - x51 = ad12 at yd12
  generalize hbd12 : -x33 + x73 = bd12 at yd12
  generalize had13 : x12 - x52 = ad13 at yd13
  generalize hbd13 : x30 - x70 = bd13 at yd13
  have cae0 := par2 (f := ae00) (g := ae10) (a := x00) (b := x40) (fb_hae00_64 hae00) (fb_hae10_65 hae10)
  have cae1 := par2 (f := ae01) (g := ae11) (a := x01) (b := x41) (fb_hae01_66 hae01) (fb_hae11_67 hae11)
  have cae2 := par2 (f := ae02) (g := ae12) (a := x02) (b := x42) (fb_hae02_68 hae02) (fb_hae12_69 hae12)
  have cae3 := par2 (f := ae03) (g := ae13) (a := x03) (b := x43) (fb_hae03_70 hae03) (fb_hae13_71 hae13)
  have cbe0 := par2 (f := be00) (g := be12) (a := x20) (b := x60) (fb_hbe00_72 hbe00) (fb_hbe12_73 hbe12)
  have cbe1 := par2 (f := be01) (g := be13) (a := x21) (b := x61) (fb_hbe01_74 hbe01) (fb_hbe13_75 hbe13)
  have cbe2 := par2 (f := be02) (g := -be10) (a := x22) (b := x62) (fb_hbe02_76 hbe02) (fb_hbe10_77 hbe10)
  rw [Int.neg_mul_neg] at cbe2
  have cbe3 := par2 (f := be03) (g := -be11) (a := x23) (b := x63) (fb_hbe03_78 hbe03) (fb_hbe11_79 hbe11)
  rw [Int.neg_mul_neg] at cbe3
  have cad0 := par2 (f := ad00) (g := ad11) (a := x10) (b := x50) (fb_had00_80 had00) (fb_had11_81 had11)
  have cad1 := par2 (f := ad01) (g := ad12) (a := x11) (b := x51) (fb_had01_82 had01) (fb_had12_83 had12)
  have cad2 := par2 (f := ad02) (g := ad13) (a := x12) (b := x52) (fb_had02_84 had02) (fb_had13_85 had13)
  have cad3 := par2 (f := ad03) (g := -ad10) (a := x13) (b := x53) (fb_had03_86 had03) (fb_had10_87 had10)
  rw [Int.neg_mul_neg] at cad3
  have cbd0 := par2 (f := bd00) (g := bd13) (a := x30) (b := x70) (fb_hbd00_88 hbd00) (fb_hbd13_89 hbd13)
  have cbd1 := par2 (f := bd01) (g := -bd10) (a := x31) (b := x71) (fb_hbd01_90 hbd01) (fb_hbd10_91 hbd10)
  rw [Int.neg_mul_neg] at cbd1
  have cbd2 := par2 (f := bd02) (g := -bd11) (a := x32) (b := x72) (fb_hbd02_92 hbd02) (fb_hbd11_93 hbd11)
  rw [Int.neg_mul_neg] at cbd2
  have cbd3 := par2 (f := bd03) (g := -bd12) (a := x33) (b := x73) (fb_hbd03_94 hbd03) (fb_hbd12_95 hbd12)
  rw [Int.neg_mul_neg] at cbd3
  have far_t1 : f00 * f00 + f01 * f01 + f02 * f02 + f03 * f03 + f10 * f10 + f11 * f11 + f12 * f12 + f13 * f13 + f20 * f20 + f21 * f21 + f22 * f22 + f23 * f23 + f30 * f30 + f31 * f31 + f32 * f32 + f33 * f33 + f40 * f40 + f41 * f41 + f42 * f42 + f43 * f43 + f50 * f50 + f51 * f51 + f52 * f52 + f53 * f53 + f60 * f60 + f61 * f61 + f62 * f62 + f63 * f63 + f70 * f70 + f71 * f71 + f72 * f72 + f73 * f73 = 2 * (e00 * e00 + e01 * e01 + e02 * e02 + e03 * e03 + e10 * e10 + e11 * e11 + e12 * e12 + e13 * e13 + e20 * e20 + e21 * e21 + e22 * e22 + e23 * e23 + e30 * e30 + e31 * e31 + e32 * e32 + e33 * e33 + d00 * d00 + d01 * d01 + d02 * d02 + d03 * d03 + d10 * d10 + d11 * d11 + d12 * d12 + d13 * d13 + d20 * d20 + d21 * d21 + d22 * d22 + d23 * d23 + d30 * d30 + d31 * d31 + d32 * d32 + d33 * d33) := far_t1_ a00 a01 a02 a03 a10 a11 a12 a13 a20 a21 a22 a23 a30 a31 a32 a33
  have far_t2 : e00 * e00 + e01 * e01 + e02 * e02 + e03 * e03 + e10 * e10 + e11 * e11 + e12 * e12 + e13 * e13 + e20 * e20 + e21 * e21 + e22 * e22 + e23 * e23 + e30 * e30 + e31 * e31 + e32 * e32 + e33 * e33 + d00 * d00 + d01 * d01 + d02 * d02 + d03 * d03 + d10 * d10 + d11 * d11 + d12 * d12 + d13 * d13 + d20 * d20 + d21 * d21 + d22 * d22 + d23 * d23 + d30 * d30 + d31 * d31 + d32 * d32 + d33 * d33 = 2 * (ae00 * ae00 + ae01 * ae01 + ae02 * ae02 + ae03 * ae03 + ae10 * ae10 + ae11 * ae11 + ae12 * ae12 + ae13 * ae13 + be00 * be00 + be01 * be01 + be02 * be02 + be03 * be03 + be10 * be10 + be11 * be11 + be12 * be12 + be13 * be13 + ad00 * ad00 + ad01 * ad01 + ad02 * ad02 + ad03 * ad03 + ad10 * ad10 + ad11 * ad11 + ad12 * ad12 + ad13 * ad13 + bd00 * bd00 + bd01 * bd01 + bd02 * bd02 + bd03 * bd03 + bd10 * bd10 + bd11 * bd11 + bd12 * bd12 + bd13 * bd13) := far_t2_ ye00 ye01 ye02 ye03 ye10 ye11 ye12 ye13 yd00 yd01 yd02 yd03 yd10 yd11 yd12 yd13
  have far_t3 : ae00 * ae00 + ae01 * ae01 + ae02 * ae02 + ae03 * ae03 + ae10 * ae10 + ae11 * ae11 + ae12 * ae12 + ae13 * ae13 + be00 * be00 + be01 * be01 + be02 * be02 + be03 * be03 + be10 * be10 + be11 * be11 + be12 * be12 + be13 * be13 + ad00 * ad00 + ad01 * ad01 + ad02 * ad02 + ad03 * ad03 + ad10 * ad10 + ad11 * ad11 + ad12 * ad12 + ad13 * ad13 + bd00 * bd00 + bd01 * bd01 + bd02 * bd02 + bd03 * bd03 + bd10 * bd10 + bd11 * bd11 + bd12 * bd12 + bd13 * bd13 = 2 * (x00 * x00 + x01 * x01 + x02 * x02 + x03 * x03 + x10 * x10 + x11 * x11 + x12 * x12 + x13 * x13 + x20 * x20 + x21 * x21 + x22 * x22 + x23 * x23 + x30 * x30 + x31 * x31 + x32 * x32 + x33 * x33 + x40 * x40 + x41 * x41 + x42 * x42 + x43 * x43 + x50 * x50 + x51 * x51 + x52 * x52 + x53 * x53 + x60 * x60 + x61 * x61 + x62 * x62 + x63 * x63 + x70 * x70 + x71 * x71 + x72 * x72 + x73 * x73) := far_t3_ cae0 cae1 cae2 cae3 cbe0 cbe1 cbe2 cbe3 cad0 cad1 cad2 cad3 cbd0 cbd1 cbd2 cbd3
  rw [far_t1, far_t2, far_t3]
  exact far_t4 _
