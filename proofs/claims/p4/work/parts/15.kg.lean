set_option maxRecDepth 20000 in
theorem ggJ0_length_8abf5_J0_coder_7d493 : GoodIn wsJ0_length_8abf5 wsJ0_coder_7d493 := goodIn_r _ [6, 7, 8] (by decide +kernel) (by decide +kernel)
set_option maxRecDepth 20000 in
theorem gJ0_length_8abf5_J0_coder_7d493 : GoodIn wsJ0_length_8abf5 (wsV RJ0 335 RJ0 yJ0_coder_7d493 wsJ0_coder_7d493) := goodIn_app (goodIn_of _ (by decide +kernel)) ggJ0_length_8abf5_J0_coder_7d493
set_option maxRecDepth 20000 in
theorem ggJ0_indexOf_0f7a4_J0_indexOf_7cf53 : GoodIn wsJ0_indexOf_0f7a4 wsJ0_indexOf_7cf53 := goodIn_r _ [5, 6, 7, 8, 9, 4, 10, 11, 12, 13, 14, 15, 16, 17, 18, 19, 20, 21, 22, 23, 24, 25, 26, 27, 28, 29, 30, 31, 32, 33, 34, 35, 36, 37, 38, 39, 40, 41, 42, 43, 44, 45, 46, 47, 48, 49, 50, 51, 52, 53, 54, 55, 56, 57, 58, 59, 60, 61, 62, 63, 64, 65, 66, 67, 68, 69, 70, 71, 72, 73, 74, 75, 76, 77, 78, 79, 80, 81, 82, 83, 84, 85] (by decide +kernel) (by decide +kernel)
set_option maxRecDepth 20000 in
theorem gJ0_indexOf_0f7a4_J0_indexOf_7cf53 : GoodIn wsJ0_indexOf_0f7a4 (wsV RJ0 633 RJ0 yJ0_indexOf_7cf53 wsJ0_indexOf_7cf53) := goodIn_app (goodIn_of _ (by decide +kernel)) ggJ0_indexOf_0f7a4_J0_indexOf_7cf53
set_option maxRecDepth 20000 in
theorem ggJ0_indexOf_7cf53_J0_isLatin1_aae02 : GoodIn wsJ0_indexOf_7cf53 wsJ0_isLatin1_aae02 := goodIn_r _ [6, 7, 8] (by decide +kernel) (by decide +kernel)
set_option maxRecDepth 20000 in
theorem gJ0_indexOf_7cf53_J0_isLatin1_aae02 : GoodIn wsJ0_indexOf_7cf53 (wsV RJ0 492 RJ0 yJ0_isLatin1_aae02 wsJ0_isLatin1_aae02) := goodIn_app (goodIn_of _ (by decide +kernel)) ggJ0_indexOf_7cf53_J0_isLatin1_aae02
set_option maxRecDepth 20000 in
theorem ggJ0_indexOf_7cf53_J0_length_8abf5 : GoodIn wsJ0_indexOf_7cf53 wsJ0_length_8abf5 := goodIn_r _ [12, 1, 13, 14, 15, 5, 16, 7, 8] (by decide +kernel) (by decide +kernel)
set_option maxRecDepth 20000 in
theorem gJ0_indexOf_7cf53_J0_length_8abf5 : GoodIn wsJ0_indexOf_7cf53 (wsV RJ0 505 RJ0 yJ0_length_8abf5 wsJ0_length_8abf5) := goodIn_app (goodIn_of _ (by decide +kernel)) ggJ0_indexOf_7cf53_J0_length_8abf5
set_option maxRecDepth 20000 in
theorem ggJ0_indexOf_7cf53_J1_indexOf_4cfef : GoodIn wsJ0_indexOf_7cf53 wsJ1_indexOf_4cfef := goodIn_r _ [20, 21, 22, 23, 24, 25, 26, 27, 28, 29, 19, 30, 31, 32, 33] (by decide +kernel) (by decide +kernel)
set_option maxRecDepth 20000 in
theorem gJ0_indexOf_7cf53_J1_indexOf_4cfef : GoodIn wsJ0_indexOf_7cf53 (va_wsS RJ0 637 yJ1_indexOf_4cfef wsJ1_indexOf_4cfef) := goodIn_app (goodIn_of _ (by decide +kernel)) ggJ0_indexOf_7cf53_J1_indexOf_4cfef
set_option maxRecDepth 20000 in
theorem ggJ0_indexOf_7cf53_J2_indexOf_4cfef : GoodIn wsJ0_indexOf_7cf53 wsJ2_indexOf_4cfef := goodIn_r _ [37, 38, 22, 23, 24, 39, 26, 27, 40, 41, 42, 36, 43, 44, 45, 46, 47, 48, 49, 50, 51, 5, 52, 53, 54, 55, 56, 57, 58, 59, 60, 61, 62, 63, 64, 65, 66, 67, 68, 69, 70, 71, 72, 73, 74, 75, 76, 77, 78, 79, 80, 81] (by decide +kernel) (by decide +kernel)
set_option maxRecDepth 20000 in
theorem gJ0_indexOf_7cf53_J2_indexOf_4cfef : GoodIn wsJ0_indexOf_7cf53 (va_wsS RJ0 640 yJ2_indexOf_4cfef wsJ2_indexOf_4cfef) := goodIn_app (goodIn_of _ (by decide +kernel)) ggJ0_indexOf_7cf53_J2_indexOf_4cfef
set_option maxRecDepth 20000 in
theorem ggJ0_checkBoundsBeginEnd_23922_J3_checkFromToIndex_8c36e : GoodIn wsJ0_checkBoundsBeginEnd_23922 wsJ3_checkFromToIndex_8c36e := goodIn_r _ [5] (by decide +kernel) (by decide +kernel)
set_option maxRecDepth 20000 in
theorem gJ0_checkBoundsBeginEnd_23922_J3_checkFromToIndex_8c36e : GoodIn wsJ0_checkBoundsBeginEnd_23922 (va_wsS RJ0 1062 yJ3_checkFromToIndex_8c36e wsJ3_checkFromToIndex_8c36e) := goodIn_app (goodIn_of _ (by decide +kernel)) ggJ0_checkBoundsBeginEnd_23922_J3_checkFromToIndex_8c36e
set_option maxRecDepth 20000 in
theorem ggJ1_indexOf_4cfef_J1_canEncode_9a6ad : GoodIn wsJ1_indexOf_4cfef wsJ1_canEncode_9a6ad := goodIn_r _ [11] (by decide +kernel) (by decide +kernel)
set_option maxRecDepth 20000 in
theorem gJ1_indexOf_4cfef_J1_canEncode_9a6ad : GoodIn wsJ1_indexOf_4cfef (va_wsS RJ1 88 yJ1_canEncode_9a6ad wsJ1_canEncode_9a6ad) := goodIn_app (goodIn_of _ (by decide +kernel)) ggJ1_indexOf_4cfef_J1_canEncode_9a6ad
set_option maxRecDepth 20000 in
theorem ggJ1_indexOf_4cfef_J1_indexOfChar_4cfef : GoodIn wsJ1_indexOf_4cfef wsJ1_indexOfChar_4cfef := goodIn_r _ [14] (by decide +kernel) (by decide +kernel)
set_option maxRecDepth 20000 in
theorem gJ1_indexOf_4cfef_J1_indexOfChar_4cfef : GoodIn wsJ1_indexOf_4cfef (va_wsS RJ1 95 yJ1_indexOfChar_4cfef wsJ1_indexOfChar_4cfef) := goodIn_app (goodIn_of _ (by decide +kernel)) ggJ1_indexOf_4cfef_J1_indexOfChar_4cfef
set_option maxRecDepth 20000 in
theorem ggJ2_getChar_3b067_J2_length_9d52b : GoodIn wsJ2_getChar_3b067 wsJ2_length_9d52b := goodIn_r _ [7] (by decide +kernel) (by decide +kernel)
set_option maxRecDepth 20000 in
theorem gJ2_getChar_3b067_J2_length_9d52b : GoodIn wsJ2_getChar_3b067 (va_wsS RJ2 48 yJ2_length_9d52b wsJ2_length_9d52b) := goodIn_app (goodIn_of _ (by decide +kernel)) ggJ2_getChar_3b067_J2_length_9d52b
set_option maxRecDepth 20000 in
theorem ggJ2_indexOf_4cfef_J2_indexOfChar_4cfef : GoodIn wsJ2_indexOf_4cfef wsJ2_indexOfChar_4cfef := goodIn_r _ [12, 13, 14, 11, 15, 16, 17, 18, 19, 20, 21, 22, 23, 24, 25, 26, 27, 28, 29, 30, 31, 32, 33, 34, 35, 36] (by decide +kernel) (by decide +kernel)
set_option maxRecDepth 20000 in
theorem gJ2_indexOf_4cfef_J2_indexOfChar_4cfef : GoodIn wsJ2_indexOf_4cfef (va_wsS RJ2 228 yJ2_indexOfChar_4cfef wsJ2_indexOfChar_4cfef) := goodIn_app (goodIn_of _ (by decide +kernel)) ggJ2_indexOf_4cfef_J2_indexOfChar_4cfef
set_option maxRecDepth 20000 in
theorem ggJ2_indexOf_4cfef_J2_indexOfSupplementary_4cfef : GoodIn wsJ2_indexOf_4cfef wsJ2_indexOfSupplementary_4cfef := goodIn_r _ [39, 40, 41, 42, 43, 44, 45, 46, 47, 48, 49, 50, 51, 13, 14, 11, 15, 16, 17, 18, 19, 20, 21, 22, 23, 24, 25, 26, 27, 31, 32, 33, 34, 35, 36] (by decide +kernel) (by decide +kernel)
set_option maxRecDepth 20000 in
theorem gJ2_indexOf_4cfef_J2_indexOfSupplementary_4cfef : GoodIn wsJ2_indexOf_4cfef (va_wsS RJ2 232 yJ2_indexOfSupplementary_4cfef wsJ2_indexOfSupplementary_4cfef) := goodIn_app (goodIn_of _ (by decide +kernel)) ggJ2_indexOf_4cfef_J2_indexOfSupplementary_4cfef
set_option maxRecDepth 20000 in
theorem ggJ2_indexOfChar_4cfef_J2_checkBoundsBeginEnd_d044e : GoodIn wsJ2_indexOfChar_4cfef wsJ2_checkBoundsBeginEnd_d044e := goodIn_r _ [4, 5, 6, 3, 7, 8, 9, 10, 11, 12, 13, 14, 15, 16] (by decide +kernel) (by decide +kernel)
set_option maxRecDepth 20000 in
theorem gJ2_indexOfChar_4cfef_J2_checkBoundsBeginEnd_d044e : GoodIn wsJ2_indexOfChar_4cfef (va_wsS RJ2 96 yJ2_checkBoundsBeginEnd_d044e wsJ2_checkBoundsBeginEnd_d044e) := goodIn_app (goodIn_of _ (by decide +kernel)) ggJ2_indexOfChar_4cfef_J2_checkBoundsBeginEnd_d044e
set_option maxRecDepth 20000 in
theorem ggJ2_indexOfChar_4cfef_J2_indexOfCharUnsafe_4cfef : GoodIn wsJ2_indexOfChar_4cfef wsJ2_indexOfCharUnsafe_4cfef := goodIn_r _ [19, 20, 21, 3, 22, 23, 24, 25, 5, 6, 7] (by decide +kernel) (by decide +kernel)
set_option maxRecDepth 20000 in
theorem gJ2_indexOfChar_4cfef_J2_indexOfCharUnsafe_4cfef : GoodIn wsJ2_indexOfChar_4cfef (va_wsS RJ2 244 yJ2_indexOfCharUnsafe_4cfef wsJ2_indexOfCharUnsafe_4cfef) := goodIn_app (goodIn_of _ (by decide +kernel)) ggJ2_indexOfChar_4cfef_J2_indexOfCharUnsafe_4cfef
set_option maxRecDepth 20000 in
theorem ggJ2_indexOfCharUnsafe_4cfef_J2_getChar_3b067 : GoodIn wsJ2_indexOfCharUnsafe_4cfef wsJ2_getChar_3b067 := goodIn_r _ [4, 5, 6, 7, 8, 9, 3, 10] (by decide +kernel) (by decide +kernel)
set_option maxRecDepth 20000 in
theorem gJ2_indexOfCharUnsafe_4cfef_J2_getChar_3b067 : GoodIn wsJ2_indexOfCharUnsafe_4cfef (va_wsS RJ2 71 yJ2_getChar_3b067 wsJ2_getChar_3b067) := goodIn_app (goodIn_of _ (by decide +kernel)) ggJ2_indexOfCharUnsafe_4cfef_J2_getChar_3b067
set_option maxRecDepth 20000 in
theorem ggJ2_indexOfSupplementary_4cfef_J11_isValidCodePoint_9a6ad : GoodIn wsJ2_indexOfSupplementary_4cfef wsJ11_isValidCodePoint_9a6ad := goodIn_r _ [4] (by decide +kernel) (by decide +kernel)
set_option maxRecDepth 20000 in
theorem gJ2_indexOfSupplementary_4cfef_J11_isValidCodePoint_9a6ad : GoodIn wsJ2_indexOfSupplementary_4cfef (va_wsS RJ2 164 yJ11_isValidCodePoint_9a6ad wsJ11_isValidCodePoint_9a6ad) := goodIn_app (goodIn_of _ (by decide +kernel)) ggJ2_indexOfSupplementary_4cfef_J11_isValidCodePoint_9a6ad
set_option maxRecDepth 20000 in
theorem ggJ2_indexOfSupplementary_4cfef_J11_highSurrogate_5068e : GoodIn wsJ2_indexOfSupplementary_4cfef wsJ11_highSurrogate_5068e := goodIn_r _ [7, 8] (by decide +kernel) (by decide +kernel)
set_option maxRecDepth 20000 in
theorem gJ2_indexOfSupplementary_4cfef_J11_highSurrogate_5068e : GoodIn wsJ2_indexOfSupplementary_4cfef (va_wsS RJ2 157 yJ11_highSurrogate_5068e wsJ11_highSurrogate_5068e) := goodIn_app (goodIn_of _ (by decide +kernel)) ggJ2_indexOfSupplementary_4cfef_J11_highSurrogate_5068e
set_option maxRecDepth 20000 in
theorem ggJ2_indexOfSupplementary_4cfef_J11_lowSurrogate_5068e : GoodIn wsJ2_indexOfSupplementary_4cfef wsJ11_lowSurrogate_5068e := goodIn_r _ [11, 12] (by decide +kernel) (by decide +kernel)
set_option maxRecDepth 20000 in
theorem gJ2_indexOfSupplementary_4cfef_J11_lowSurrogate_5068e : GoodIn wsJ2_indexOfSupplementary_4cfef (va_wsS RJ2 161 yJ11_lowSurrogate_5068e wsJ11_lowSurrogate_5068e) := goodIn_app (goodIn_of _ (by decide +kernel)) ggJ2_indexOfSupplementary_4cfef_J11_lowSurrogate_5068e
set_option maxRecDepth 20000 in
theorem ggJ2_indexOfSupplementary_4cfef_J2_checkBoundsBeginEnd_d044e : GoodIn wsJ2_indexOfSupplementary_4cfef wsJ2_checkBoundsBeginEnd_d044e := goodIn_r _ [16, 17, 18, 15, 19, 20, 21, 22, 23, 24, 25, 26, 27, 28] (by decide +kernel) (by decide +kernel)
set_option maxRecDepth 20000 in
theorem gJ2_indexOfSupplementary_4cfef_J2_checkBoundsBeginEnd_d044e : GoodIn wsJ2_indexOfSupplementary_4cfef (va_wsS RJ2 96 yJ2_checkBoundsBeginEnd_d044e wsJ2_checkBoundsBeginEnd_d044e) := goodIn_app (goodIn_of _ (by decide +kernel)) ggJ2_indexOfSupplementary_4cfef_J2_checkBoundsBeginEnd_d044e
set_option maxRecDepth 20000 in
theorem ggJ2_indexOfSupplementary_4cfef_J2_getChar_3b067 : GoodIn wsJ2_indexOfSupplementary_4cfef wsJ2_getChar_3b067 := goodIn_r _ [31, 32, 33, 34, 17, 18, 15, 19] (by decide +kernel) (by decide +kernel)
set_option maxRecDepth 20000 in
theorem gJ2_indexOfSupplementary_4cfef_J2_getChar_3b067 : GoodIn wsJ2_indexOfSupplementary_4cfef (va_wsS RJ2 71 yJ2_getChar_3b067 wsJ2_getChar_3b067) := goodIn_app (goodIn_of _ (by decide +kernel)) ggJ2_indexOfSupplementary_4cfef_J2_getChar_3b067
set_option maxRecDepth 20000 in
theorem ggJ2_checkBoundsBeginEnd_d044e_J2_length_9d52b : GoodIn wsJ2_checkBoundsBeginEnd_d044e wsJ2_length_9d52b := goodIn_r _ [4] (by decide +kernel) (by decide +kernel)
set_option maxRecDepth 20000 in
theorem gJ2_checkBoundsBeginEnd_d044e_J2_length_9d52b : GoodIn wsJ2_checkBoundsBeginEnd_d044e (va_wsS RJ2 48 yJ2_length_9d52b wsJ2_length_9d52b) := goodIn_app (goodIn_of _ (by decide +kernel)) ggJ2_checkBoundsBeginEnd_d044e_J2_length_9d52b
set_option maxRecDepth 20000 in
theorem ggJ2_checkBoundsBeginEnd_d044e_J0_checkBoundsBeginEnd_23922 : GoodIn wsJ2_checkBoundsBeginEnd_d044e wsJ0_checkBoundsBeginEnd_23922 := goodIn_r _ [8, 9, 10, 11, 12, 13] (by decide +kernel) (by decide +kernel)
set_option maxRecDepth 20000 in
theorem gJ2_checkBoundsBeginEnd_d044e_J0_checkBoundsBeginEnd_23922 : GoodIn wsJ2_checkBoundsBeginEnd_d044e (va_wsS RJ2 241 yJ0_checkBoundsBeginEnd_23922 wsJ0_checkBoundsBeginEnd_23922) := goodIn_app (goodIn_of _ (by decide +kernel)) ggJ2_checkBoundsBeginEnd_d044e_J0_checkBoundsBeginEnd_23922
set_option maxRecDepth 20000 in
theorem ggL_law_X2_init : GoodIn wsL_law wsX2_init := goodIn_r _ [8, 9, 10, 11, 12, 13, 14, 15, 16, 17, 18, 19, 20, 21, 22, 23, 24, 25, 26, 27, 28, 29, 30, 31, 32, 33, 34, 35, 36, 37, 38, 39, 40, 41, 42, 43, 44, 45, 46, 766, 767, 716, 717, 718, 719, 720, 721, 722, 723, 724, 725, 768, 769, 770, 771, 772, 773, 774, 775, 776, 777, 778, 779, 780] (by decide +kernel) (by decide +kernel)
set_option maxRecDepth 20000 in
theorem gL_law_X2_init : GoodIn wsL_law (wsX2_init) := ggL_law_X2_init
set_option maxRecDepth 20000 in
theorem ggL_law_X3_init : GoodIn wsL_law wsX3_init := goodIn_r _ [49, 50, 10, 11, 16, 51, 52, 53, 54, 55, 56, 57, 58, 59, 60, 61, 62, 63, 64, 65, 66, 67, 68, 69, 70, 726, 727, 728, 729, 730, 731, 732, 733, 734, 735, 736, 737, 738, 739, 740, 741, 742, 743, 744, 745, 746, 747, 748, 749, 750, 751, 752, 753, 754, 755, 756, 757, 758, 759, 760, 761, 762, 763, 764, 765] (by decide +kernel) (by decide +kernel)
set_option maxRecDepth 20000 in
theorem gL_law_X3_init : GoodIn wsL_law (wsX3_init) := ggL_law_X3_init
set_option maxRecDepth 20000 in
theorem ggL_law_X2_letter : GoodIn wsL_law wsX2_letter := goodIn_r _ [74, 15, 75, 76, 77, 2, 78, 79, 80, 81, 14, 82, 34, 33, 716, 717, 718, 719, 720, 721, 722, 723, 724, 725, 766, 767] (by decide +kernel) (by decide +kernel)
set_option maxRecDepth 20000 in
theorem gL_law_X2_letter : GoodIn wsL_law (wsV RL 13 RX2 yX2_letter wsX2_letter) := goodIn_app (goodIn_of _ (by decide +kernel)) ggL_law_X2_letter
set_option maxRecDepth 20000 in
theorem ggL_law_X3_letter : GoodIn wsL_law wsX3_letter := goodIn_r _ [86, 87, 61, 88, 89, 5, 90, 726, 727, 728, 729, 730, 731, 732, 733, 734, 735, 736, 737, 738, 739, 740, 741, 742, 743, 744, 745, 746, 747, 748, 749, 750, 751, 752, 753, 754, 755, 756, 757, 758, 759, 760, 761, 762, 763, 764, 765] (by decide +kernel) (by decide +kernel)
set_option maxRecDepth 20000 in
theorem gL_law_X3_letter : GoodIn wsL_law (wsV RL 17 RX3 yX3_letter wsX3_letter) := goodIn_app (goodIn_of _ (by decide +kernel)) ggL_law_X3_letter
set_option maxRecDepth 20000 in
theorem ggL_law_X2_blank : GoodIn wsL_law wsX2_blank := goodIn_r _ [94, 15, 95, 96, 97, 14, 98, 34, 716, 717, 718, 719, 720, 721, 722, 723, 724, 725, 766, 767] (by decide +kernel) (by decide +kernel)
set_option maxRecDepth 20000 in
theorem gL_law_X2_blank : GoodIn wsL_law (wsV RL 18 RX2 yX2_blank wsX2_blank) := goodIn_app (goodIn_of _ (by decide +kernel)) ggL_law_X2_blank
set_option maxRecDepth 20000 in
theorem ggL_law_X3_blank : GoodIn wsL_law wsX3_blank := goodIn_r _ [102, 87, 726, 727, 728, 729, 730, 731, 732, 733, 734, 735, 736, 737, 738, 739, 740, 741, 742, 743, 744, 745, 746, 747, 748, 749, 750, 751, 752, 753, 754, 755, 756, 757, 758, 759, 760, 761, 762, 763, 764, 765] (by decide +kernel) (by decide +kernel)
set_option maxRecDepth 20000 in
theorem gL_law_X3_blank : GoodIn wsL_law (wsV RL 22 RX3 yX3_blank wsX3_blank) := goodIn_app (goodIn_of _ (by decide +kernel)) ggL_law_X3_blank
set_option maxRecDepth 20000 in
theorem ggL_law_X2_fault : GoodIn wsL_law wsX2_fault := goodIn_r _ [106, 15, 107, 108, 109, 14, 110, 34, 111, 112, 113, 114, 115, 116, 117, 118, 119, 120, 121, 122, 33, 123, 124, 125, 126, 127, 128, 129, 130, 131, 132, 133, 134, 135, 136, 137, 138, 139, 140, 141, 142, 143, 144, 145, 146, 147, 148, 149, 150, 151, 152, 153, 154, 155, 156, 157, 158, 159, 160, 161, 162, 163, 164, 165, 166, 167, 168, 169, 170, 171, 172, 173, 174, 175, 176, 177, 178, 179, 180, 181, 182, 183, 184, 185, 186, 187, 188, 189, 190, 191, 192, 193, 194, 195, 196, 197, 198, 199, 200, 201, 202, 203, 204, 205, 206, 207, 208, 209, 210, 211, 212, 213, 214, 215, 77, 2, 78, 216, 217, 218, 219, 716, 717, 718, 719, 720, 721, 722, 723, 724, 725, 766, 767] (by decide +kernel) (by decide +kernel)
set_option maxRecDepth 20000 in
theorem gL_law_X2_fault : GoodIn wsL_law (wsV RL 23 RX2 yX2_fault wsX2_fault) := goodIn_app (goodIn_of _ (by decide +kernel)) ggL_law_X2_fault
set_option maxRecDepth 20000 in
theorem ggL_law_X3_fault : GoodIn wsL_law wsX3_fault := goodIn_r _ [223, 224, 225, 226, 5, 227, 228, 229, 87, 61, 230, 231, 232, 233, 234, 235, 236, 88, 89, 90, 726, 727, 728, 729, 730, 731, 732, 733, 734, 735, 736, 737, 738, 739, 740, 741, 742, 743, 744, 745, 746, 747, 748, 749, 750, 751, 752, 753, 754, 755, 756, 757, 758, 759, 760, 761, 762, 763, 764, 765] (by decide +kernel) (by decide +kernel)
set_option maxRecDepth 20000 in
theorem gL_law_X3_fault : GoodIn wsL_law (wsV RL 26 RX3 yX3_fault wsX3_fault) := goodIn_app (goodIn_of _ (by decide +kernel)) ggL_law_X3_fault
set_option maxRecDepth 20000 in
theorem ggL_law_X2_city : GoodIn wsL_law wsX2_city := goodIn_r _ [240, 15, 26, 17, 18, 22, 28, 27, 241, 242, 243, 14, 244, 34, 245, 108, 109, 110, 111, 112, 113, 114, 115, 116, 117, 118, 119, 120, 121, 122, 33, 123, 124, 125, 126, 127, 128, 129, 130, 131, 132, 133, 134, 135, 136, 137, 138, 139, 140, 141, 142, 143, 144, 145, 146, 147, 148, 149, 150, 151, 152, 153, 154, 155, 156, 157, 158, 159, 160, 161, 162, 163, 164, 165, 166, 167, 168, 169, 170, 171, 172, 173, 174, 175, 176, 177, 178, 179, 180, 181, 182, 183, 184, 185, 186, 187, 188, 189, 190, 191, 192, 193, 194, 195, 196, 197, 198, 199, 200, 201, 202, 203, 204, 205, 206, 207, 208, 209, 210, 211, 212, 213, 214, 215, 77, 2, 78, 216, 217, 218, 219, 246, 247, 248, 249, 250, 251, 252, 253, 254, 255, 256, 257, 258, 259, 260, 261, 262, 263, 264, 265, 266, 267, 268, 21, 269, 270, 271, 272, 273, 274, 39, 40, 41, 42, 95, 96, 97, 98, 716, 717, 718, 719, 720, 721, 722, 723, 724, 725, 766, 767, 768, 769, 770, 771, 772, 773, 774, 775, 776, 777, 778, 779, 780] (by decide +kernel) (by decide +kernel)
set_option maxRecDepth 20000 in
theorem gL_law_X2_city : GoodIn wsL_law (wsV RL 27 RX2 yX2_city wsX2_city) := goodIn_app (goodIn_of _ (by decide +kernel)) ggL_law_X2_city
set_option maxRecDepth 20000 in
theorem ggL_law_X3_city : GoodIn wsL_law wsX3_city := goodIn_r _ [278, 228, 229, 279, 51, 61, 52, 53, 54, 55, 56, 280, 281, 282, 283, 284, 285, 87, 224, 225, 226, 5, 227, 230, 231, 232, 233, 234, 235, 236, 88, 89, 90, 726, 727, 728, 729, 730, 731, 732, 733, 734, 735, 736, 737, 738, 739, 740, 741, 742, 743, 744, 745, 746, 747, 748, 749, 750, 751, 752, 753, 754, 755, 756, 757, 758, 759, 760, 761, 762, 763, 764, 765] (by decide +kernel) (by decide +kernel)
set_option maxRecDepth 20000 in
theorem gL_law_X3_city : GoodIn wsL_law (wsV RL 30 RX3 yX3_city wsX3_city) := goodIn_app (goodIn_of _ (by decide +kernel)) ggL_law_X3_city
set_option maxRecDepth 20000 in
theorem ggL_law_X2_about : GoodIn wsL_law wsX2_about := goodIn_r _ [289, 17, 18, 22, 290, 291, 292, 293, 294, 295, 2, 296, 26, 297, 298, 299, 300, 301, 302, 303, 304, 305, 306, 307, 308, 716, 717, 718, 719, 720, 721, 722, 723, 724, 725, 768, 769, 770, 771, 772, 773, 774, 775, 776, 777, 778, 779, 780] (by decide +kernel) (by decide +kernel)
set_option maxRecDepth 20000 in
theorem gL_law_X2_about : GoodIn wsL_law (wsV RL 31 RX2 yX2_about wsX2_about) := goodIn_app (goodIn_of _ (by decide +kernel)) ggL_law_X2_about
set_option maxRecDepth 20000 in
theorem ggL_law_X3_about : GoodIn wsL_law wsX3_about := goodIn_r _ [312, 313, 314, 315, 5, 316, 279, 88, 89, 90, 317, 318, 319, 320, 51, 52, 53, 56, 280, 55, 321, 322, 323, 324, 325, 326, 327, 328, 329, 330, 331, 726, 727, 728, 729, 730, 731, 732, 733, 734, 735, 736, 737, 738, 739, 740, 741, 742, 743, 744, 745, 746, 747, 748, 749, 750, 751, 752, 753, 754, 755, 756, 757, 758, 759, 760, 761, 762, 763, 764, 765] (by decide +kernel) (by decide +kernel)
set_option maxRecDepth 20000 in
theorem gL_law_X3_about : GoodIn wsL_law (wsV RL 35 RX3 yX3_about wsX3_about) := goodIn_app (goodIn_of _ (by decide +kernel)) ggL_law_X3_about
set_option maxRecDepth 20000 in
theorem ggL_law_X2_as : GoodIn wsL_law wsX2_as := goodIn_r _ [335, 17, 293, 294, 295, 2, 296, 26, 76, 77, 78, 336, 337, 338, 716, 717, 718, 719, 720, 721, 722, 723, 724, 725] (by decide +kernel) (by decide +kernel)
set_option maxRecDepth 20000 in
theorem gL_law_X2_as : GoodIn wsL_law (wsV RL 36 RX2 yX2_as wsX2_as) := goodIn_app (goodIn_of _ (by decide +kernel)) ggL_law_X2_as
set_option maxRecDepth 20000 in
theorem ggL_law_X3_as : GoodIn wsL_law wsX3_as := goodIn_r _ [342, 51, 313, 314, 315, 5, 316, 279, 88, 89, 90, 726, 727, 728, 729, 730, 731, 732, 733, 734, 735, 736, 737, 738, 739, 740, 741, 742, 743, 744, 745, 746, 747, 748, 749, 750, 751, 752, 753, 754, 755, 756, 757, 758, 759, 760, 761, 762, 763, 764, 765] (by decide +kernel) (by decide +kernel)
set_option maxRecDepth 20000 in
theorem gL_law_X3_as : GoodIn wsL_law (wsV RL 39 RX3 yX3_as wsX3_as) := goodIn_app (goodIn_of _ (by decide +kernel)) ggL_law_X3_as
set_option maxRecDepth 20000 in
theorem ggL_law_X2_bring : GoodIn wsL_law wsX2_bring := goodIn_r _ [346, 22, 292, 290, 347, 293, 294, 295, 2, 296, 26, 76, 77, 78, 348, 349, 350, 351, 156, 153, 157, 352, 353, 354, 716, 717, 718, 719, 720, 721, 722, 723, 724, 725, 768, 769, 770, 771, 772, 773, 774, 775, 776, 777, 778, 779, 780] (by decide +kernel) (by decide +kernel)
set_option maxRecDepth 20000 in
theorem gL_law_X2_bring : GoodIn wsL_law (wsV RL 40 RX2 yX2_bring wsX2_bring) := goodIn_app (goodIn_of _ (by decide +kernel)) ggL_law_X2_bring
set_option maxRecDepth 20000 in
theorem ggL_law_X3_bring : GoodIn wsL_law wsX3_bring := goodIn_r _ [358, 55, 53, 284, 313, 314, 315, 5, 316, 279, 88, 89, 90, 359, 360, 361, 726, 727, 728, 729, 730, 731, 732, 733, 734, 735, 736, 737, 738, 739, 740, 741, 742, 743, 744, 745, 746, 747, 748, 749, 750, 751, 752, 753, 754, 755, 756, 757, 758, 759, 760, 761, 762, 763, 764, 765] (by decide +kernel) (by decide +kernel)
set_option maxRecDepth 20000 in
theorem gL_law_X3_bring : GoodIn wsL_law (wsV RL 43 RX3 yX3_bring wsX3_bring) := goodIn_app (goodIn_of _ (by decide +kernel)) ggL_law_X3_bring
set_option maxRecDepth 20000 in
theorem ggL_law_X2_tread : GoodIn wsL_law wsX2_tread := goodIn_r _ [365, 22, 291, 293, 294, 295, 2, 296, 26, 76, 77, 78, 716, 717, 718, 719, 720, 721, 722, 723, 724, 725, 768, 769, 770, 771, 772, 773, 774, 775, 776, 777, 778, 779, 780] (by decide +kernel) (by decide +kernel)
set_option maxRecDepth 20000 in
theorem gL_law_X2_tread : GoodIn wsL_law (wsV RL 44 RX2 yX2_tread wsX2_tread) := goodIn_app (goodIn_of _ (by decide +kernel)) ggL_law_X2_tread
set_option maxRecDepth 20000 in
theorem ggL_law_X3_tread : GoodIn wsL_law wsX3_tread := goodIn_r _ [369, 56, 313, 314, 315, 5, 316, 279, 88, 89, 90, 726, 727, 728, 729, 730, 731, 732, 733, 734, 735, 736, 737, 738, 739, 740, 741, 742, 743, 744, 745, 746, 747, 748, 749, 750, 751, 752, 753, 754, 755, 756, 757, 758, 759, 760, 761, 762, 763, 764, 765] (by decide +kernel) (by decide +kernel)
set_option maxRecDepth 20000 in
theorem gL_law_X3_tread : GoodIn wsL_law (wsV RL 47 RX3 yX3_tread wsX3_tread) := goodIn_app (goodIn_of _ (by decide +kernel)) ggL_law_X3_tread
set_option maxRecDepth 20000 in
theorem ggL_law_X2_sun : GoodIn wsL_law wsX2_sun := goodIn_r _ [373, 26, 22, 301, 76, 77, 2, 78, 716, 717, 718, 719, 720, 721, 722, 723, 724, 725, 768, 769, 770, 771, 772, 773, 774, 775, 776, 777, 778, 779, 780] (by decide +kernel) (by decide +kernel)
set_option maxRecDepth 20000 in
theorem gL_law_X2_sun : GoodIn wsL_law (wsV RL 48 RX2 yX2_sun wsX2_sun) := goodIn_app (goodIn_of _ (by decide +kernel)) ggL_law_X2_sun
set_option maxRecDepth 20000 in
theorem ggL_law_X3_sun : GoodIn wsL_law wsX3_sun := goodIn_r _ [377, 279, 280, 88, 89, 5, 90, 726, 727, 728, 729, 730, 731, 732, 733, 734, 735, 736, 737, 738, 739, 740, 741, 742, 743, 744, 745, 746, 747, 748, 749, 750, 751, 752, 753, 754, 755, 756, 757, 758, 759, 760, 761, 762, 763, 764, 765] (by decide +kernel) (by decide +kernel)
set_option maxRecDepth 20000 in
theorem gL_law_X3_sun : GoodIn wsL_law (wsV RL 51 RX3 yX3_sun wsX3_sun) := goodIn_app (goodIn_of _ (by decide +kernel)) ggL_law_X3_sun
set_option maxRecDepth 20000 in
theorem ggL_law_X2_day : GoodIn wsL_law wsX2_day := goodIn_r _ [381, 26, 22, 290, 301, 382, 383, 384, 2, 385, 17, 291, 302, 303, 304, 386, 387, 388, 389, 390, 391, 392, 305, 306, 307, 308, 18, 393, 394, 395, 21, 396, 270, 273, 40, 39, 42, 716, 717, 718, 719, 720, 721, 722, 723, 724, 725, 768, 769, 770, 771, 772, 773, 774, 775, 776, 777, 778, 779, 780] (by decide +kernel) (by decide +kernel)
set_option maxRecDepth 20000 in
theorem gL_law_X2_day : GoodIn wsL_law (wsV RL 52 RX2 yX2_day wsX2_day) := goodIn_app (goodIn_of _ (by decide +kernel)) ggL_law_X2_day
set_option maxRecDepth 20000 in
theorem ggL_law_X3_day : GoodIn wsL_law wsX3_day := goodIn_r _ [400, 279, 280, 54, 53, 55, 282, 283, 401, 402, 403, 5, 404, 321, 322, 323, 324, 56, 51, 325, 326, 327, 405, 406, 407, 408, 328, 329, 330, 331, 52, 726, 727, 728, 729, 730, 731, 732, 733, 734, 735, 736, 737, 738, 739, 740, 741, 742, 743, 744, 745, 746, 747, 748, 749, 750, 751, 752, 753, 754, 755, 756, 757, 758, 759, 760, 761, 762, 763, 764, 765] (by decide +kernel) (by decide +kernel)
set_option maxRecDepth 20000 in
theorem gL_law_X3_day : GoodIn wsL_law (wsV RL 55 RX3 yX3_day wsX3_day) := goodIn_app (goodIn_of _ (by decide +kernel)) ggL_law_X3_day
set_option maxRecDepth 20000 in
theorem ggL_law_X2_need : GoodIn wsL_law wsX2_need := goodIn_r _ [412, 293, 294, 295, 2, 296, 26, 76, 77, 78, 413, 414, 415, 416, 18, 22, 290, 417, 152, 153, 154, 297, 298, 299, 300, 17, 301, 291, 302, 303, 304, 716, 717, 718, 719, 720, 721, 722, 723, 724, 725, 768, 769, 770, 771, 772, 773, 774, 775, 776, 777, 778, 779, 780] (by decide +kernel) (by decide +kernel)
set_option maxRecDepth 20000 in
theorem gL_law_X2_need : GoodIn wsL_law (wsV RL 56 RX2 yX2_need wsX2_need) := goodIn_app (goodIn_of _ (by decide +kernel)) ggL_law_X2_need
set_option maxRecDepth 20000 in
theorem ggL_law_X3_need : GoodIn wsL_law wsX3_need := goodIn_r _ [421, 313, 314, 315, 5, 316, 279, 88, 89, 90, 422, 423, 424, 425, 426, 427, 428, 429, 53, 280, 359, 360, 361, 328, 329, 330, 331, 52, 321, 322, 323, 324, 56, 51, 325, 326, 327, 726, 727, 728, 729, 730, 731, 732, 733, 734, 735, 736, 737, 738, 739, 740, 741, 742, 743, 744, 745, 746, 747, 748, 749, 750, 751, 752, 753, 754, 755, 756, 757, 758, 759, 760, 761, 762, 763, 764, 765] (by decide +kernel) (by decide +kernel)
set_option maxRecDepth 20000 in
theorem gL_law_X3_need : GoodIn wsL_law (wsV RL 59 RX3 yX3_need wsX3_need) := goodIn_app (goodIn_of _ (by decide +kernel)) ggL_law_X3_need
set_option maxRecDepth 20000 in
theorem ggL_law_X2_plan : GoodIn wsL_law wsX2_plan := goodIn_r _ [433, 26, 76, 77, 2, 78, 434, 435, 436, 437, 25, 413, 414, 415, 416, 18, 22, 290, 417, 152, 153, 154, 297, 298, 299, 300, 17, 301, 291, 302, 303, 304, 438, 439, 440, 441, 442, 443, 444, 445, 446, 447, 448, 449, 450, 451, 452, 453, 454, 455, 456, 457, 458, 459, 460, 461, 462, 463, 352, 353, 354, 716, 717, 718, 719, 720, 721, 722, 723, 724, 725, 768, 769, 770, 771, 772, 773, 774, 775, 776, 777, 778, 779, 780] (by decide +kernel) (by decide +kernel)
set_option maxRecDepth 20000 in
theorem gL_law_X2_plan : GoodIn wsL_law (wsV RL 60 RX2 yX2_plan wsX2_plan) := goodIn_app (goodIn_of _ (by decide +kernel)) ggL_law_X2_plan
set_option maxRecDepth 20000 in
theorem ggL_law_X3_plan : GoodIn wsL_law wsX3_plan := goodIn_r _ [467, 279, 88, 89, 5, 90, 468, 469, 470, 471, 62, 472, 473, 422, 423, 424, 425, 426, 427, 428, 429, 53, 280, 359, 360, 361, 328, 329, 330, 331, 52, 321, 322, 323, 324, 56, 51, 325, 326, 327, 474, 475, 476, 477, 478, 479, 480, 481, 482, 483, 726, 727, 728, 729, 730, 731, 732, 733, 734, 735, 736, 737, 738, 739, 740, 741, 742, 743, 744, 745, 746, 747, 748, 749, 750, 751, 752, 753, 754, 755, 756, 757, 758, 759, 760, 761, 762, 763, 764, 765] (by decide +kernel) (by decide +kernel)
set_option maxRecDepth 20000 in
theorem gL_law_X3_plan : GoodIn wsL_law (wsV RL 64 RX3 yX3_plan wsX3_plan) := goodIn_app (goodIn_of _ (by decide +kernel)) ggL_law_X3_plan
set_option maxRecDepth 20000 in
theorem ggL_law_X2_error : GoodIn wsL_law wsX2_error := goodIn_r _ [487, 26, 76, 77, 2, 78, 488, 489, 490, 491, 22, 290, 389, 390, 391, 392, 305, 306, 307, 308, 18, 492, 493, 494, 495, 496, 497, 498, 499, 500, 292, 293, 294, 295, 296, 348, 349, 350, 351, 156, 153, 157, 716, 717, 718, 719, 720, 721, 722, 723, 724, 725, 768, 769, 770, 771, 772, 773, 774, 775, 776, 777, 778, 779, 780] (by decide +kernel) (by decide +kernel)
set_option maxRecDepth 20000 in
theorem gL_law_X2_error : GoodIn wsL_law (wsV RL 65 RX2 yX2_error wsX2_error) := goodIn_app (goodIn_of _ (by decide +kernel)) ggL_law_X2_error
set_option maxRecDepth 20000 in
theorem ggL_law_X3_error : GoodIn wsL_law wsX3_error := goodIn_r _ [504, 279, 88, 89, 5, 90, 505, 506, 507, 508, 405, 406, 407, 408, 53, 328, 329, 330, 331, 52, 509, 510, 511, 512, 54, 55, 359, 360, 361, 726, 727, 728, 729, 730, 731, 732, 733, 734, 735, 736, 737, 738, 739, 740, 741, 742, 743, 744, 745, 746, 747, 748, 749, 750, 751, 752, 753, 754, 755, 756, 757, 758, 759, 760, 761, 762, 763, 764, 765] (by decide +kernel) (by decide +kernel)
set_option maxRecDepth 20000 in
theorem gL_law_X3_error : GoodIn wsL_law (wsV RL 68 RX3 yX3_error wsX3_error) := goodIn_app (goodIn_of _ (by decide +kernel)) ggL_law_X3_error
set_option maxRecDepth 20000 in
theorem ggL_law_X2_found : GoodIn wsL_law wsX2_found := goodIn_r _ [516, 22, 17, 291, 517, 293, 294, 295, 2, 296, 26, 76, 77, 78, 518, 519, 520, 21, 521, 274, 43, 44, 45, 46, 716, 717, 718, 719, 720, 721, 722, 723, 724, 725, 768, 769, 770, 771, 772, 773, 774, 775, 776, 777, 778, 779, 780] (by decide +kernel) (by decide +kernel)
set_option maxRecDepth 20000 in
theorem gL_law_X2_found : GoodIn wsL_law (wsV RL 69 RX2 yX2_found wsX2_found) := goodIn_app (goodIn_of _ (by decide +kernel)) ggL_law_X2_found
set_option maxRecDepth 20000 in
theorem ggL_law_X3_found : GoodIn wsL_law wsX3_found := goodIn_r _ [525, 285, 57, 58, 59, 313, 314, 315, 5, 316, 279, 88, 89, 90, 726, 727, 728, 729, 730, 731, 732, 733, 734, 735, 736, 737, 738, 739, 740, 741, 742, 743, 744, 745, 746, 747, 748, 749, 750, 751, 752, 753, 754, 755, 756, 757, 758, 759, 760, 761, 762, 763, 764, 765] (by decide +kernel) (by decide +kernel)
set_option maxRecDepth 20000 in
theorem gL_law_X3_found : GoodIn wsL_law (wsV RL 72 RX3 yX3_found wsX3_found) := goodIn_app (goodIn_of _ (by decide +kernel)) ggL_law_X3_found
set_option maxRecDepth 20000 in
theorem ggL_law_X2_forget : GoodIn wsL_law wsX2_forget := goodIn_r _ [529, 22, 517, 716, 717, 718, 719, 720, 721, 722, 723, 724, 725, 768, 769, 770, 771, 772, 773, 774, 775, 776, 777, 778, 779, 780] (by decide +kernel) (by decide +kernel)
set_option maxRecDepth 20000 in
theorem gL_law_X2_forget : GoodIn wsL_law (wsV RL 73 RX2 yX2_forget wsX2_forget) := goodIn_app (goodIn_of _ (by decide +kernel)) ggL_law_X2_forget
set_option maxRecDepth 20000 in
theorem ggL_law_X3_forget : GoodIn wsL_law wsX3_forget := goodIn_r _ [533, 285, 726, 727, 728, 729, 730, 731, 732, 733, 734, 735, 736, 737, 738, 739, 740, 741, 742, 743, 744, 745, 746, 747, 748, 749, 750, 751, 752, 753, 754, 755, 756, 757, 758, 759, 760, 761, 762, 763, 764, 765] (by decide +kernel) (by decide +kernel)
set_option maxRecDepth 20000 in
theorem gL_law_X3_forget : GoodIn wsL_law (wsV RL 76 RX3 yX3_forget wsX3_forget) := goodIn_app (goodIn_of _ (by decide +kernel)) ggL_law_X3_forget
set_option maxRecDepth 20000 in
theorem ggL_law_X2_suns : GoodIn wsL_law wsX2_suns := goodIn_r _ [537, 26, 538, 539, 540, 2, 541, 542, 543, 544, 545, 22, 517, 546, 547, 548, 549, 302, 303, 304, 386, 387, 388, 716, 717, 718, 719, 720, 721, 722, 723, 724, 725, 768, 769, 770, 771, 772, 773, 774, 775, 776, 777, 778, 779, 780] (by decide +kernel) (by decide +kernel)
set_option maxRecDepth 20000 in
theorem gL_law_X2_suns : GoodIn wsL_law (wsV RL 77 RX2 yX2_suns wsX2_suns) := goodIn_app (goodIn_of _ (by decide +kernel)) ggL_law_X2_suns
set_option maxRecDepth 20000 in
theorem ggL_law_X3_suns : GoodIn wsL_law wsX3_suns := goodIn_r _ [553, 279, 554, 555, 556, 5, 557, 285, 57, 58, 59, 558, 559, 560, 561, 321, 322, 323, 324, 56, 51, 325, 326, 327, 726, 727, 728, 729, 730, 731, 732, 733, 734, 735, 736, 737, 738, 739, 740, 741, 742, 743, 744, 745, 746, 747, 748, 749, 750, 751, 752, 753, 754, 755, 756, 757, 758, 759, 760, 761, 762, 763, 764, 765] (by decide +kernel) (by decide +kernel)
set_option maxRecDepth 20000 in
theorem gL_law_X3_suns : GoodIn wsL_law (wsV RL 80 RX3 yX3_suns wsX3_suns) := goodIn_app (goodIn_of _ (by decide +kernel)) ggL_law_X3_suns
set_option maxRecDepth 20000 in
theorem ggL_law_X2_look : GoodIn wsL_law wsX2_look := goodIn_r _ [565, 26, 538, 539, 540, 2, 541, 542, 543, 544, 545, 22, 517, 546, 547, 548, 549, 302, 303, 304, 386, 387, 388, 566, 567, 568, 569, 570, 571, 572, 573, 417, 152, 153, 154, 446, 447, 448, 574, 575, 576, 577, 578, 579, 580, 581, 17, 291, 293, 294, 295, 296, 716, 717, 718, 719, 720, 721, 722, 723, 724, 725, 768, 769, 770, 771, 772, 773, 774, 775, 776, 777, 778, 779, 780] (by decide +kernel) (by decide +kernel)
set_option maxRecDepth 20000 in
theorem gL_law_X2_look : GoodIn wsL_law (wsV RL 81 RX2 yX2_look wsX2_look) := goodIn_app (goodIn_of _ (by decide +kernel)) ggL_law_X2_look
set_option maxRecDepth 20000 in
theorem ggL_law_X3_look : GoodIn wsL_law wsX3_look := goodIn_r _ [585, 279, 586, 587, 588, 5, 589, 590, 554, 555, 556, 557, 285, 57, 58, 59, 558, 559, 560, 561, 321, 322, 323, 324, 56, 51, 325, 326, 327, 591, 592, 593, 594, 478, 479, 480, 726, 727, 728, 729, 730, 731, 732, 733, 734, 735, 736, 737, 738, 739, 740, 741, 742, 743, 744, 745, 746, 747, 748, 749, 750, 751, 752, 753, 754, 755, 756, 757, 758, 759, 760, 761, 762, 763, 764, 765] (by decide +kernel) (by decide +kernel)
set_option maxRecDepth 20000 in
theorem gL_law_X3_look : GoodIn wsL_law (wsV RL 84 RX3 yX3_look wsX3_look) := goodIn_app (goodIn_of _ (by decide +kernel)) ggL_law_X3_look
set_option maxRecDepth 20000 in
theorem ggL_law_X2_winters : GoodIn wsL_law wsX2_winters := goodIn_r _ [598, 26, 22, 290, 24, 599, 600, 601, 602, 76, 77, 2, 78, 603, 604, 605, 606, 607, 608, 609, 610, 611, 612, 613, 614, 615, 616, 293, 294, 295, 296, 348, 349, 350, 351, 156, 153, 157, 382, 383, 384, 385, 17, 291, 302, 303, 304, 386, 387, 388, 389, 390, 391, 392, 305, 306, 307, 308, 18, 617, 618, 619, 620, 716, 717, 718, 719, 720, 721, 722, 723, 724, 725, 768, 769, 770, 771, 772, 773, 774, 775, 776, 777, 778, 779, 780] (by decide +kernel) (by decide +kernel)
set_option maxRecDepth 20000 in
theorem gL_law_X2_winters : GoodIn wsL_law (wsV RL 85 RX2 yX2_winters wsX2_winters) := goodIn_app (goodIn_of _ (by decide +kernel)) ggL_law_X2_winters
set_option maxRecDepth 20000 in
theorem ggL_law_X3_winters : GoodIn wsL_law wsX3_winters := goodIn_r _ [624, 279, 88, 89, 5, 90, 625, 626, 627, 628, 63, 53, 629, 630, 631, 632, 633, 634, 635, 636, 637, 359, 360, 361, 401, 402, 403, 404, 321, 322, 323, 324, 56, 51, 325, 326, 327, 405, 406, 407, 408, 328, 329, 330, 331, 52, 638, 639, 640, 641, 726, 727, 728, 729, 730, 731, 732, 733, 734, 735, 736, 737, 738, 739, 740, 741, 742, 743, 744, 745, 746, 747, 748, 749, 750, 751, 752, 753, 754, 755, 756, 757, 758, 759, 760, 761, 762, 763, 764, 765] (by decide +kernel) (by decide +kernel)
set_option maxRecDepth 20000 in
theorem gL_law_X3_winters : GoodIn wsL_law (wsV RL 88 RX3 yX3_winters wsX3_winters) := goodIn_app (goodIn_of _ (by decide +kernel)) ggL_law_X3_winters
set_option maxRecDepth 20000 in
theorem ggL_law_X2_image : GoodIn wsL_law wsX2_image := goodIn_r _ [645, 26, 23, 22, 28, 646, 647, 648, 649, 21, 650, 270, 271, 272, 273, 274, 39, 40, 41, 42, 43, 44, 45, 46, 651, 652, 653, 654, 156, 153, 157, 655, 600, 601, 602, 716, 717, 718, 719, 720, 721, 722, 723, 724, 725, 768, 769, 770, 771, 772, 773, 774, 775, 776, 777, 778, 779, 780] (by decide +kernel) (by decide +kernel)
set_option maxRecDepth 20000 in
theorem gL_law_X2_image : GoodIn wsL_law (wsV RL 89 RX2 yX2_image wsX2_image) := goodIn_app (goodIn_of _ (by decide +kernel)) ggL_law_X2_image
set_option maxRecDepth 20000 in
theorem ggL_law_X3_image : GoodIn wsL_law wsX3_image := goodIn_r _ [659, 279, 660, 281, 661, 280, 662, 282, 663, 283, 664, 284, 665, 285, 666, 64, 53, 65, 54, 66, 55, 67, 56, 68, 57, 69, 58, 70, 59, 726, 727, 728, 729, 730, 731, 732, 733, 734, 735, 736, 737, 738, 739, 740, 741, 742, 743, 744, 745, 746, 747, 748, 749, 750, 751, 752, 753, 754, 755, 756, 757, 758, 759, 760, 761, 762, 763, 764, 765] (by decide +kernel) (by decide +kernel)
set_option maxRecDepth 20000 in
theorem gL_law_X3_image : GoodIn wsL_law (wsV RL 92 RX3 yX3_image wsX3_image) := goodIn_app (goodIn_of _ (by decide +kernel)) ggL_law_X3_image
set_option maxRecDepth 20000 in
theorem ggL_law_X2_restore : GoodIn wsL_law wsX2_restore := goodIn_r _ [670, 28, 22, 23, 646, 647, 648, 649, 21, 650, 270, 271, 272, 273, 274, 39, 40, 41, 42, 43, 44, 45, 46, 651, 652, 653, 654, 156, 153, 157, 655, 600, 601, 602, 716, 717, 718, 719, 720, 721, 722, 723, 724, 725, 768, 769, 770, 771, 772, 773, 774, 775, 776, 777, 778, 779, 780] (by decide +kernel) (by decide +kernel)
set_option maxRecDepth 20000 in
theorem gL_law_X2_restore : GoodIn wsL_law (wsV RL 93 RX2 yX2_restore wsX2_restore) := goodIn_app (goodIn_of _ (by decide +kernel)) ggL_law_X2_restore
set_option maxRecDepth 20000 in
theorem ggL_law_X3_restore : GoodIn wsL_law wsX3_restore := goodIn_r _ [674, 660, 661, 281, 662, 280, 663, 282, 664, 283, 665, 284, 666, 285, 53, 64, 54, 65, 55, 66, 56, 67, 57, 68, 58, 69, 59, 70, 726, 727, 728, 729, 730, 731, 732, 733, 734, 735, 736, 737, 738, 739, 740, 741, 742, 743, 744, 745, 746, 747, 748, 749, 750, 751, 752, 753, 754, 755, 756, 757, 758, 759, 760, 761, 762, 763, 764, 765] (by decide +kernel) (by decide +kernel)
set_option maxRecDepth 20000 in
theorem gL_law_X3_restore : GoodIn wsL_law (wsV RL 96 RX3 yX3_restore wsX3_restore) := goodIn_app (goodIn_of _ (by decide +kernel)) ggL_law_X3_restore
set_option maxRecDepth 20000 in
theorem ggL_law_X2_count : GoodIn wsL_law wsX2_count := goodIn_r _ [678, 26, 22, 301, 646, 290, 679, 347, 517, 15, 75, 27, 617, 618, 619, 2, 620, 389, 390, 391, 392, 305, 306, 307, 308, 18, 716, 717, 718, 719, 720, 721, 722, 723, 724, 725, 768, 769, 770, 771, 772, 773, 774, 775, 776, 777, 778, 779, 780, 766, 767] (by decide +kernel) (by decide +kernel)
set_option maxRecDepth 20000 in
theorem gL_law_X2_count : GoodIn wsL_law (wsV RL 97 RX2 yX2_count wsX2_count) := goodIn_app (goodIn_of _ (by decide +kernel)) ggL_law_X2_count
set_option maxRecDepth 20000 in
theorem ggL_law_X3_count : GoodIn wsL_law wsX3_count := goodIn_r _ [683, 684, 685, 686, 5, 687, 279, 280, 282, 283, 284, 285, 87, 281, 638, 639, 640, 641, 53, 405, 406, 407, 408, 328, 329, 330, 331, 52, 726, 727, 728, 729, 730, 731, 732, 733, 734, 735, 736, 737, 738, 739, 740, 741, 742, 743, 744, 745, 746, 747, 748, 749, 750, 751, 752, 753, 754, 755, 756, 757, 758, 759, 760, 761, 762, 763, 764, 765] (by decide +kernel) (by decide +kernel)
set_option maxRecDepth 20000 in
theorem gL_law_X3_count : GoodIn wsL_law (wsV RL 100 RX3 yX3_count wsX3_count) := goodIn_app (goodIn_of _ (by decide +kernel)) ggL_law_X3_count
set_option maxRecDepth 20000 in
theorem ggL_law_X2_digest : GoodIn wsL_law wsX2_digest := goodIn_r _ [691, 692, 26, 15, 75, 693, 287, 288, 2, 289, 17, 18, 22, 290, 291, 292, 293, 294, 295, 296, 297, 298, 299, 300, 301, 302, 303, 304, 305, 306, 307, 308, 694, 695, 696, 697, 698, 410, 411, 412, 76, 77, 78, 413, 414, 415, 416, 417, 152, 153, 154, 699, 431, 432, 433, 434, 435, 436, 437, 25, 438, 439, 440, 441, 442, 443, 444, 445, 446, 447, 448, 449, 450, 451, 452, 453, 454, 455, 456, 457, 458, 459, 460, 461, 462, 463, 352, 353, 354, 700, 485, 486, 487, 488, 489, 490, 491, 389, 390, 391, 392, 492, 493, 494, 495, 496, 497, 498, 499, 500, 348, 349, 350, 351, 156, 157, 701, 535, 536, 537, 538, 539, 540, 541, 542, 543, 544, 545, 517, 546, 547, 548, 549, 386, 387, 388, 702, 563, 564, 565, 566, 567, 568, 569, 570, 571, 572, 573, 574, 575, 576, 577, 578, 579, 580, 581, 703, 120, 121, 14, 122, 33, 704, 676, 677, 678, 646, 679, 347, 27, 617, 618, 619, 620, 716, 717, 718, 719, 720, 721, 722, 723, 724, 725, 766, 767, 768, 769, 770, 771, 772, 773, 774, 775, 776, 777, 778, 779, 780] (by decide +kernel) (by decide +kernel)
set_option maxRecDepth 20000 in
theorem gL_law_X2_digest : GoodIn wsL_law (wsV RL 101 RX2 yX2_digest wsX2_digest) := goodIn_app (goodIn_of _ (by decide +kernel)) ggL_law_X2_digest
set_option maxRecDepth 20000 in
theorem ggL_law_X3_digest : GoodIn wsL_law wsX3_digest := goodIn_r _ [708, 709, 710, 279, 87, 61, 317, 318, 319, 5, 320, 51, 52, 53, 56, 280, 55, 321, 322, 323, 324, 325, 326, 327, 328, 329, 330, 331, 711, 712, 713, 714, 715, 422, 423, 424, 425, 426, 427, 428, 429, 359, 360, 361, 468, 469, 470, 471, 62, 472, 473, 474, 475, 476, 477, 478, 479, 480, 481, 482, 483, 505, 506, 507, 508, 405, 406, 407, 408, 509, 510, 511, 512, 54, 554, 555, 556, 557, 285, 57, 58, 59, 558, 559, 560, 561, 586, 587, 588, 589, 590, 591, 592, 593, 594, 684, 685, 686, 687, 282, 283, 284, 281, 638, 639, 640, 641, 726, 727, 728, 729, 730, 731, 732, 733, 734, 735, 736, 737, 738, 739, 740, 741, 742, 743, 744, 745, 746, 747, 748, 749, 750, 751, 752, 753, 754, 755, 756, 757, 758, 759, 760, 761, 762, 763, 764, 765] (by decide +kernel) (by decide +kernel)
set_option maxRecDepth 20000 in
theorem gL_law_X3_digest : GoodIn wsL_law (wsV RL 105 RX3 yX3_digest wsX3_digest) := goodIn_app (goodIn_of _ (by decide +kernel)) ggL_law_X3_digest
