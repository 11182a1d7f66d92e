set_option maxRecDepth 20000 in
theorem gX5_at_J4_charAt_5068e : GoodIn wsX5_at (wsV RX5 175 RJ4 yJ4_charAt_5068e wsJ4_charAt_5068e) := goodIn_app (goodIn_of _ (by decide +kernel)) ggX5_at_J4_charAt_5068e
set_option maxRecDepth 20000 in
theorem ggX5_concludes_X2_has : GoodIn wsX5_concludes wsX2_has := goodIn_r _ [8, 9, 42, 43, 44, 45, 46] rfl (by decide +kernel)
set_option maxRecDepth 20000 in
theorem gX5_concludes_X2_has : GoodIn wsX5_concludes (wsV RX5 85 RX2 yX2_has wsX2_has) := goodIn_app (goodIn_of _ (by decide +kernel)) ggX5_concludes_X2_has
set_option maxRecDepth 20000 in
theorem ggX5_concludes_X4_has : GoodIn wsX5_concludes wsX4_has := goodIn_r _ [14, 15, 16, 17, 13, 18, 19, 47, 48, 49] rfl (by decide +kernel)
set_option maxRecDepth 20000 in
theorem gX5_concludes_X4_has : GoodIn wsX5_concludes (wsV RX5 121 RX4 yX4_has wsX4_has) := goodIn_app (goodIn_of _ (by decide +kernel)) ggX5_concludes_X4_has
set_option maxRecDepth 20000 in
theorem ggX5_concludes_X4_isSame : GoodIn wsX5_concludes wsX4_isSame := goodIn_r _ [23, 15, 16, 17, 13, 18, 19, 24, 25, 26, 27, 28, 29, 30, 31, 32, 47, 48, 49] rfl (by decide +kernel)
set_option maxRecDepth 20000 in
theorem gX5_concludes_X4_isSame : GoodIn wsX5_concludes (wsV RX5 179 RX4 yX4_isSame wsX4_isSame) := goodIn_app (goodIn_of _ (by decide +kernel)) ggX5_concludes_X4_isSame
set_option maxRecDepth 20000 in
theorem ggX5_ruleOf_X2_has : GoodIn wsX5_ruleOf wsX2_has := goodIn_r _ [6, 7, 28, 29, 30, 31, 32] rfl (by decide +kernel)
set_option maxRecDepth 20000 in
theorem gX5_ruleOf_X2_has : GoodIn wsX5_ruleOf (wsV RX5 85 RX2 yX2_has wsX2_has) := goodIn_app (goodIn_of _ (by decide +kernel)) ggX5_ruleOf_X2_has
set_option maxRecDepth 20000 in
theorem ggX5_ruleOf_X2_ruleNumber : GoodIn wsX5_ruleOf wsX2_ruleNumber := goodIn_r _ [11, 12, 13, 3, 4, 5, 6, 7, 28, 29, 30, 31, 32] rfl (by decide +kernel)
set_option maxRecDepth 20000 in
theorem gX5_ruleOf_X2_ruleNumber : GoodIn wsX5_ruleOf (wsV RX5 136 RX2 yX2_ruleNumber wsX2_ruleNumber) := goodIn_app (goodIn_of _ (by decide +kernel)) ggX5_ruleOf_X2_ruleNumber
set_option maxRecDepth 20000 in
theorem ggX5_ruleOf_X5_ruleNumbered : GoodIn wsX5_ruleOf wsX5_ruleNumbered := goodIn_r _ [17, 18] rfl (by decide +kernel)
set_option maxRecDepth 20000 in
theorem gX5_ruleOf_X5_ruleNumbered : GoodIn wsX5_ruleOf (va_wsS RX5 77 yX5_ruleNumbered wsX5_ruleNumbered) := goodIn_app (goodIn_of _ (by decide +kernel)) ggX5_ruleOf_X5_ruleNumbered
set_option maxRecDepth 20000 in
theorem ggX5_isInstance_X4_has : GoodIn wsX5_isInstance wsX4_has := goodIn_r _ [11, 12, 13, 14, 10, 15, 16, 30, 31, 32] rfl (by decide +kernel)
set_option maxRecDepth 20000 in
theorem gX5_isInstance_X4_has : GoodIn wsX5_isInstance (wsV RX5 121 RX4 yX4_has wsX4_has) := goodIn_app (goodIn_of _ (by decide +kernel)) ggX5_isInstance_X4_has
set_option maxRecDepth 20000 in
theorem ggX5_isInstance_X5_isTerm : GoodIn wsX5_isInstance wsX5_isTerm := goodIn_r _ [20] rfl (by decide +kernel)
set_option maxRecDepth 20000 in
theorem gX5_isInstance_X5_isTerm : GoodIn wsX5_isInstance (va_wsS RX5 61 yX5_isTerm wsX5_isTerm) := goodIn_app (goodIn_of _ (by decide +kernel)) ggX5_isInstance_X5_isTerm
set_option maxRecDepth 20000 in
theorem ggX5_derive_X4_clear : GoodIn wsX5_derive wsX4_clear := goodIn_r _ [6, 7, 8, 9, 5, 10, 11, 12, 175, 176, 177] rfl (by decide +kernel)
set_option maxRecDepth 20000 in
theorem gX5_derive_X4_clear : GoodIn wsX5_derive (wsV RX5 200 RX4 yX4_clear wsX4_clear) := goodIn_app (goodIn_of _ (by decide +kernel)) ggX5_derive_X4_clear
set_option maxRecDepth 20000 in
theorem ggX5_derive_X5_ruleOf : GoodIn wsX5_derive wsX5_ruleOf := goodIn_r _ [17, 18, 19, 20, 21, 22, 23, 24, 25, 26, 27, 28, 29, 30, 31, 32, 16, 33, 34, 166, 167, 168, 169, 170, 171, 172, 173, 174, 178, 179, 180, 181, 182] rfl (by decide +kernel)
set_option maxRecDepth 20000 in
theorem gX5_derive_X5_ruleOf : GoodIn wsX5_derive (wsV RX5 105 RX5 yX5_ruleOf wsX5_ruleOf) := goodIn_app (goodIn_of _ (by decide +kernel)) ggX5_derive_X5_ruleOf
set_option maxRecDepth 20000 in
theorem ggX5_derive_X5_fits : GoodIn wsX5_derive wsX5_fits := goodIn_r _ [38, 18, 39, 40, 41, 42, 22, 43, 44, 30, 20, 21, 23, 24, 45, 46, 47, 48, 49, 50, 51, 52, 53, 54, 55, 56, 57, 58, 59, 60, 61, 62, 63, 64, 65, 66, 67, 68, 69, 70, 71, 72, 73, 74, 75, 76, 77, 78, 79, 80, 81, 16, 82, 1, 83, 84, 85, 5, 86, 11, 87, 88, 89, 90, 91, 92, 93, 94, 95, 96, 97, 98, 99, 100, 101, 102, 103, 104, 105, 106, 107, 108, 109, 110, 111, 112, 113, 114, 115, 116, 117, 118, 119, 120, 121, 122, 123, 124, 125, 126, 127, 128, 129, 130, 131, 132, 133, 134, 12, 135, 136, 137, 138, 139, 140, 141, 142, 166, 167, 168, 169, 170, 171, 172, 173, 174, 178, 179, 180, 181, 182, 183, 175, 176, 177] rfl (by decide +kernel)
set_option maxRecDepth 20000 in
theorem gX5_derive_X5_fits : GoodIn wsX5_derive (wsV RX5 203 RX5 yX5_fits wsX5_fits) := goodIn_app (goodIn_of _ (by decide +kernel)) ggX5_derive_X5_fits
set_option maxRecDepth 20000 in
theorem ggX5_derive_X5_conclude : GoodIn wsX5_derive wsX5_conclude := goodIn_r _ [146, 18, 147, 1, 148, 149, 150, 151, 152, 39, 153, 154, 155, 22, 156, 157, 30, 20, 21, 23, 24, 158, 159, 160, 5, 161, 162, 84, 85, 86, 11, 163, 132, 133, 134, 12, 7, 8, 9, 10, 135, 136, 137, 66, 138, 68, 139, 140, 141, 142, 87, 88, 16, 89, 90, 52, 53, 54, 55, 56, 57, 58, 59, 60, 61, 62, 91, 92, 93, 94, 95, 96, 97, 98, 99, 100, 101, 102, 103, 104, 105, 106, 107, 108, 109, 110, 111, 112, 113, 114, 115, 116, 117, 118, 119, 120, 121, 122, 123, 124, 125, 126, 127, 128, 129, 130, 164, 165, 166, 167, 168, 169, 170, 171, 172, 173, 174, 178, 179, 180, 181, 182, 175, 176, 177, 183] rfl (by decide +kernel)
set_option maxRecDepth 20000 in
theorem gX5_derive_X5_conclude : GoodIn wsX5_derive (wsV RX5 207 RX5 yX5_conclude wsX5_conclude) := goodIn_app (goodIn_of _ (by decide +kernel)) ggX5_derive_X5_conclude
set_option maxRecDepth 20000 in
theorem ggX5_fits_X2_premiseCount : GoodIn wsX5_fits wsX2_premiseCount := goodIn_r _ [7, 8, 9, 10, 11, 6, 12, 13, 126, 127, 128, 129, 130] rfl (by decide +kernel)
set_option maxRecDepth 20000 in
theorem gX5_fits_X2_premiseCount : GoodIn wsX5_fits (wsV RX5 108 RX2 yX2_premiseCount wsX2_premiseCount) := goodIn_app (goodIn_of _ (by decide +kernel)) ggX5_fits_X2_premiseCount
set_option maxRecDepth 20000 in
theorem ggX5_fits_X3_takes : GoodIn wsX5_fits wsX3_takes := goodIn_r _ [18, 19, 20, 21, 22, 23, 24, 25, 26, 27, 28, 29, 30, 31] rfl (by decide +kernel)
set_option maxRecDepth 20000 in
theorem gX5_fits_X3_takes : GoodIn wsX5_fits (wsV RX5 88 RX3 yX3_takes wsX3_takes) := goodIn_app (goodIn_of _ (by decide +kernel)) ggX5_fits_X3_takes
set_option maxRecDepth 20000 in
theorem ggX5_fits_X1_forget : GoodIn wsX5_fits wsX1_forget := goodIn_r _ [36, 37, 38, 39, 40, 41, 131] rfl (by decide +kernel)
set_option maxRecDepth 20000 in
theorem gX5_fits_X1_forget : GoodIn wsX5_fits (wsV RX5 211 RX1 yX1_forget wsX1_forget) := goodIn_app (goodIn_of _ (by decide +kernel)) ggX5_fits_X1_forget
set_option maxRecDepth 20000 in
theorem ggX5_fits_X2_premiseAt : GoodIn wsX5_fits wsX2_premiseAt := goodIn_r _ [45, 46, 47, 4, 5, 6, 7, 8, 9, 10, 11, 12, 13, 126, 127, 128, 129, 130] rfl (by decide +kernel)
set_option maxRecDepth 20000 in
theorem gX5_fits_X2_premiseAt : GoodIn wsX5_fits (wsV RX5 214 RX2 yX2_premiseAt wsX2_premiseAt) := goodIn_app (goodIn_of _ (by decide +kernel)) ggX5_fits_X2_premiseAt
set_option maxRecDepth 20000 in
theorem ggX5_fits_X5_isAsTold : GoodIn wsX5_fits wsX5_isAsTold := goodIn_r _ [52, 53, 2, 54, 55, 56, 57, 58, 59, 60, 61, 51, 62, 63, 21, 22, 23, 24, 25, 26, 27, 28, 29, 30, 31, 64, 65, 66, 67, 68, 69, 70, 71, 72, 73, 74, 75, 76, 77, 78, 79, 80, 81, 82, 83, 84, 85, 86, 87, 88, 89, 90, 91, 92, 93, 94, 95, 96, 97, 98, 99, 100, 101, 102, 35, 103, 104, 105, 106, 107, 108, 109, 110, 111, 112, 37, 113, 114, 115, 116, 117, 118, 119, 120, 121, 122, 123, 124, 125, 132, 133, 134, 131] rfl (by decide +kernel)
set_option maxRecDepth 20000 in
theorem gX5_fits_X5_isAsTold : GoodIn wsX5_fits (wsV RX5 220 RX5 yX5_isAsTold wsX5_isAsTold) := goodIn_app (goodIn_of _ (by decide +kernel)) ggX5_fits_X5_isAsTold
set_option maxRecDepth 20000 in
theorem ggX5_isAsTold_X4_kind : GoodIn wsX5_isAsTold wsX4_kind := goodIn_r _ [7, 8, 89, 90, 91] rfl (by decide +kernel)
set_option maxRecDepth 20000 in
theorem gX5_isAsTold_X4_kind : GoodIn wsX5_isAsTold (wsV RX5 139 RX4 yX4_kind wsX4_kind) := goodIn_app (goodIn_of _ (by decide +kernel)) ggX5_isAsTold_X4_kind
set_option maxRecDepth 20000 in
theorem ggX5_isAsTold_X5_signAt : GoodIn wsX5_isAsTold wsX5_signAt := goodIn_r _ [12, 13, 14, 15, 16, 17, 18, 19, 20, 21, 22, 23, 24, 25, 26, 27, 28, 29, 30, 31, 32, 33, 34, 35, 36, 37, 38, 39, 40, 41, 42, 43, 44, 45, 46, 47, 48, 49, 50, 51, 52, 53, 54, 55, 56, 57, 58, 59, 60, 61] rfl (by decide +kernel)
set_option maxRecDepth 20000 in
theorem gX5_isAsTold_X5_signAt : GoodIn wsX5_isAsTold (va_wsS RX5 224 yX5_signAt wsX5_signAt) := goodIn_app (goodIn_of _ (by decide +kernel)) ggX5_isAsTold_X5_signAt
set_option maxRecDepth 20000 in
theorem ggX5_isAsTold_X1_kindFor : GoodIn wsX5_isAsTold wsX1_kindFor := goodIn_r _ [65] rfl (by decide +kernel)
set_option maxRecDepth 20000 in
theorem gX5_isAsTold_X1_kindFor : GoodIn wsX5_isAsTold (va_wsS RX5 228 yX1_kindFor wsX1_kindFor) := goodIn_app (goodIn_of _ (by decide +kernel)) ggX5_isAsTold_X1_kindFor
set_option maxRecDepth 20000 in
theorem ggX5_isAsTold_X4_number : GoodIn wsX5_isAsTold wsX4_number := goodIn_r _ [69, 8, 70, 89, 90, 91] rfl (by decide +kernel)
set_option maxRecDepth 20000 in
theorem gX5_isAsTold_X4_number : GoodIn wsX5_isAsTold (wsV RX5 142 RX4 yX4_number wsX4_number) := goodIn_app (goodIn_of _ (by decide +kernel)) ggX5_isAsTold_X4_number
set_option maxRecDepth 20000 in
theorem ggX5_isAsTold_X1_agree : GoodIn wsX5_isAsTold wsX1_agree := goodIn_r _ [74, 75, 76, 77, 78, 64, 79, 92] rfl (by decide +kernel)
set_option maxRecDepth 20000 in
theorem gX5_isAsTold_X1_agree : GoodIn wsX5_isAsTold (wsV RX5 232 RX1 yX1_agree wsX1_agree) := goodIn_app (goodIn_of _ (by decide +kernel)) ggX5_isAsTold_X1_agree
set_option maxRecDepth 20000 in
theorem ggX5_conclude_X2_instance : GoodIn wsX5_conclude wsX2_instance := goodIn_r _ [14, 15, 16, 17, 18, 13, 19, 20, 117, 118, 119, 120, 121] rfl (by decide +kernel)
set_option maxRecDepth 20000 in
theorem gX5_conclude_X2_instance : GoodIn wsX5_conclude (wsV RX5 236 RX2 yX2_instance wsX2_instance) := goodIn_app (goodIn_of _ (by decide +kernel)) ggX5_conclude_X2_instance
set_option maxRecDepth 20000 in
theorem ggX5_conclude_X4_put : GoodIn wsX5_conclude wsX4_put := goodIn_r _ [25, 26, 27, 28, 24, 29, 30, 31, 32, 33, 34, 35, 36, 37, 38, 39, 122, 123, 124] rfl (by decide +kernel)
set_option maxRecDepth 20000 in
theorem gX5_conclude_X4_put : GoodIn wsX5_conclude (wsV RX5 129 RX4 yX4_put wsX4_put) := goodIn_app (goodIn_of _ (by decide +kernel)) ggX5_conclude_X4_put
set_option maxRecDepth 20000 in
theorem ggX5_conclude_X1_agree : GoodIn wsX5_conclude wsX1_agree := goodIn_r _ [44, 45, 46, 47, 48, 43, 49, 125] rfl (by decide +kernel)
set_option maxRecDepth 20000 in
theorem gX5_conclude_X1_agree : GoodIn wsX5_conclude (wsV RX5 232 RX1 yX1_agree wsX1_agree) := goodIn_app (goodIn_of _ (by decide +kernel)) ggX5_conclude_X1_agree
set_option maxRecDepth 20000 in
theorem ggX5_conclude_X5_signAt : GoodIn wsX5_conclude wsX5_signAt := goodIn_r _ [53, 54, 55, 56, 57, 58, 59, 60, 61, 62, 63, 64, 65, 66, 67, 68, 69, 70, 71, 72, 73, 74, 75, 76, 77, 78, 79, 80, 81, 82, 83, 84, 85, 86, 87, 88, 89, 90, 91, 92, 93, 94, 95, 96, 97, 98, 99, 100, 101, 102] rfl (by decide +kernel)
set_option maxRecDepth 20000 in
theorem gX5_conclude_X5_signAt : GoodIn wsX5_conclude (va_wsS RX5 224 yX5_signAt wsX5_signAt) := goodIn_app (goodIn_of _ (by decide +kernel)) ggX5_conclude_X5_signAt
set_option maxRecDepth 20000 in
theorem ggX5_conclude_X1_kindFor : GoodIn wsX5_conclude wsX1_kindFor := goodIn_r _ [105] rfl (by decide +kernel)
set_option maxRecDepth 20000 in
theorem gX5_conclude_X1_kindFor : GoodIn wsX5_conclude (va_wsS RX5 228 yX1_kindFor wsX1_kindFor) := goodIn_app (goodIn_of _ (by decide +kernel)) ggX5_conclude_X1_kindFor
set_option maxRecDepth 20000 in
theorem ggX5_conclude_X1_meaning : GoodIn wsX5_conclude wsX1_meaning := goodIn_r _ [49, 45, 125] rfl (by decide +kernel)
set_option maxRecDepth 20000 in
theorem gX5_conclude_X1_meaning : GoodIn wsX5_conclude (wsV RX5 242 RX1 yX1_meaning wsX1_meaning) := goodIn_app (goodIn_of _ (by decide +kernel)) ggX5_conclude_X1_meaning
set_option maxRecDepth 20000 in
theorem ggX5_conclude_X4_put_ : GoodIn wsX5_conclude wsX4_put_ := goodIn_r _ [39, 30, 35, 122, 123, 124] rfl (by decide +kernel)
set_option maxRecDepth 20000 in
theorem gX5_conclude_X4_put_ : GoodIn wsX5_conclude (wsV RX5 245 RX4 yX4_put_ wsX4_put_) := goodIn_app (goodIn_of _ (by decide +kernel)) ggX5_conclude_X4_put_
set_option maxRecDepth 20000 in
theorem ggX5_signAt_J0_length_8abf5 : GoodIn wsX5_signAt wsJ0_length_8abf5 := goodIn_r _ [5, 6, 7, 8, 9, 4, 10, 11, 12] rfl (by decide +kernel)
set_option maxRecDepth 20000 in
theorem gX5_signAt_J0_length_8abf5 : GoodIn wsX5_signAt (wsV RX5 248 RJ0 yJ0_length_8abf5 wsJ0_length_8abf5) := goodIn_app (goodIn_of _ (by decide +kernel)) ggX5_signAt_J0_length_8abf5
set_option maxRecDepth 20000 in
theorem ggX5_signAt_J0_charAt_5068e : GoodIn wsX5_signAt wsJ0_charAt_5068e := goodIn_r _ [16, 6, 17, 18, 19, 4, 20, 11, 12, 21, 22, 23, 24, 25, 26, 27, 28, 29, 30, 31, 32, 33, 34, 35, 36, 37, 38, 39, 40, 41, 42, 43, 44, 45, 46, 47, 48, 49] rfl (by decide +kernel)
set_option maxRecDepth 20000 in
theorem gX5_signAt_J0_charAt_5068e : GoodIn wsX5_signAt (wsV RX5 251 RJ0 yJ0_charAt_5068e wsJ0_charAt_5068e) := goodIn_app (goodIn_of _ (by decide +kernel)) ggX5_signAt_J0_charAt_5068e
set_option maxRecDepth 20000 in
theorem ggX5_markProof_X2_has : GoodIn wsX5_markProof wsX2_has := goodIn_r _ [7, 8, 30, 31, 32, 33, 34] rfl (by decide +kernel)
set_option maxRecDepth 20000 in
theorem gX5_markProof_X2_has : GoodIn wsX5_markProof (wsV RX5 85 RX2 yX2_has wsX2_has) := goodIn_app (goodIn_of _ (by decide +kernel)) ggX5_markProof_X2_has
set_option maxRecDepth 20000 in
theorem ggX5_markProof_X2_premiseCount : GoodIn wsX5_markProof wsX2_premiseCount := goodIn_r _ [12, 13, 14, 4, 5, 6, 7, 8, 30, 31, 32, 33, 34] rfl (by decide +kernel)
set_option maxRecDepth 20000 in
theorem gX5_markProof_X2_premiseCount : GoodIn wsX5_markProof (wsV RX5 108 RX2 yX2_premiseCount wsX2_premiseCount) := goodIn_app (goodIn_of _ (by decide +kernel)) ggX5_markProof_X2_premiseCount
set_option maxRecDepth 20000 in
theorem ggX5_markProof_X2_premiseAt : GoodIn wsX5_markProof wsX2_premiseAt := goodIn_r _ [18, 19, 20, 10, 11, 6, 12, 13, 14, 4, 5, 7, 8, 30, 31, 32, 33, 34] rfl (by decide +kernel)
set_option maxRecDepth 20000 in
theorem gX5_markProof_X2_premiseAt : GoodIn wsX5_markProof (wsV RX5 214 RX2 yX2_premiseAt wsX2_premiseAt) := goodIn_app (goodIn_of _ (by decide +kernel)) ggX5_markProof_X2_premiseAt
set_option maxRecDepth 20000 in
theorem ggX5_leastBroken_X4_has : GoodIn wsX5_leastBroken wsX4_has := goodIn_r _ [7, 8, 9, 10, 6, 11, 12, 22, 23, 24] rfl (by decide +kernel)
set_option maxRecDepth 20000 in
theorem gX5_leastBroken_X4_has : GoodIn wsX5_leastBroken (wsV RX5 121 RX4 yX4_has wsX4_has) := goodIn_app (goodIn_of _ (by decide +kernel)) ggX5_leastBroken_X4_has
set_option maxRecDepth 20000 in
theorem ggX5_sizeAbovePremises_X2_premiseCount : GoodIn wsX5_sizeAbovePremises wsX2_premiseCount := goodIn_r _ [12, 13, 14, 15, 16, 11, 17, 18, 35, 36, 37, 38, 39] rfl (by decide +kernel)
set_option maxRecDepth 20000 in
theorem gX5_sizeAbovePremises_X2_premiseCount : GoodIn wsX5_sizeAbovePremises (wsV RX5 108 RX2 yX2_premiseCount wsX2_premiseCount) := goodIn_app (goodIn_of _ (by decide +kernel)) ggX5_sizeAbovePremises_X2_premiseCount
set_option maxRecDepth 20000 in
theorem ggX5_sizeAbovePremises_X2_premiseAt : GoodIn wsX5_sizeAbovePremises wsX2_premiseAt := goodIn_r _ [22, 23, 24, 9, 10, 11, 12, 13, 14, 15, 16, 17, 18, 35, 36, 37, 38, 39] rfl (by decide +kernel)
set_option maxRecDepth 20000 in
theorem gX5_sizeAbovePremises_X2_premiseAt : GoodIn wsX5_sizeAbovePremises (wsV RX5 214 RX2 yX2_premiseAt wsX2_premiseAt) := goodIn_app (goodIn_of _ (by decide +kernel)) ggX5_sizeAbovePremises_X2_premiseAt
set_option maxRecDepth 20000 in
theorem ggX5_sizeAbovePremises_X2_has : GoodIn wsX5_sizeAbovePremises wsX2_has := goodIn_r _ [17, 18, 35, 36, 37, 38, 39] rfl (by decide +kernel)
set_option maxRecDepth 20000 in
theorem gX5_sizeAbovePremises_X2_has : GoodIn wsX5_sizeAbovePremises (wsV RX5 85 RX2 yX2_has wsX2_has) := goodIn_app (goodIn_of _ (by decide +kernel)) ggX5_sizeAbovePremises_X2_has
set_option maxRecDepth 20000 in
theorem ggX5_tellStatement_X5_wordingFor : GoodIn wsX5_tellStatement wsX5_wordingFor := goodIn_r _ [7, 2, 8, 9, 10, 11, 12, 13, 14, 15, 16, 17, 18, 19, 20, 201, 202, 203, 204, 205, 206, 207, 208, 209, 210, 211, 212] rfl (by decide +kernel)
set_option maxRecDepth 20000 in
theorem gX5_tellStatement_X5_wordingFor : GoodIn wsX5_tellStatement (wsV RX5 260 RX5 yX5_wordingFor wsX5_wordingFor) := goodIn_app (goodIn_of _ (by decide +kernel)) ggX5_tellStatement_X5_wordingFor
set_option maxRecDepth 20000 in
theorem ggX5_tellStatement_J0_length_8abf5 : GoodIn wsX5_tellStatement wsJ0_length_8abf5 := goodIn_r _ [25, 26, 27, 28, 29, 24, 30, 31, 32] rfl (by decide +kernel)
set_option maxRecDepth 20000 in
theorem gX5_tellStatement_J0_length_8abf5 : GoodIn wsX5_tellStatement (wsV RX5 248 RJ0 yJ0_length_8abf5 wsJ0_length_8abf5) := goodIn_app (goodIn_of _ (by decide +kernel)) ggX5_tellStatement_J0_length_8abf5
set_option maxRecDepth 20000 in
theorem ggX5_tellStatement_J0_charAt_5068e : GoodIn wsX5_tellStatement wsJ0_charAt_5068e := goodIn_r _ [36, 26, 37, 38, 39, 24, 40, 31, 32, 41, 42, 43, 44, 45, 46, 47, 48, 49, 50, 51, 52, 53, 54, 55, 56, 57, 58, 59, 60, 61, 62, 63, 64, 65, 66, 67, 68, 69] rfl (by decide +kernel)
set_option maxRecDepth 20000 in
theorem gX5_tellStatement_J0_charAt_5068e : GoodIn wsX5_tellStatement (wsV RX5 251 RJ0 yJ0_charAt_5068e wsJ0_charAt_5068e) := goodIn_app (goodIn_of _ (by decide +kernel)) ggX5_tellStatement_J0_charAt_5068e
set_option maxRecDepth 20000 in
theorem ggX5_tellStatement_X4_number : GoodIn wsX5_tellStatement wsX4_number := goodIn_r _ [19, 15, 20, 210, 211, 212] rfl (by decide +kernel)
set_option maxRecDepth 20000 in
theorem gX5_tellStatement_X4_number : GoodIn wsX5_tellStatement (wsV RX5 142 RX4 yX4_number wsX4_number) := goodIn_app (goodIn_of _ (by decide +kernel)) ggX5_tellStatement_X4_number
set_option maxRecDepth 20000 in
theorem ggX5_tellStatement_J4_append_bf812 : GoodIn wsX5_tellStatement wsJ4_append_bf812 := goodIn_r _ [74, 75, 76, 77, 78, 79, 80, 81, 82, 83, 84, 85, 86, 87, 88, 89, 90, 91, 92, 93, 94, 95, 96, 97, 98, 99, 100, 101, 102, 103, 104, 105, 106, 107, 108, 109, 110, 111, 112, 113, 114, 115, 116, 117, 118, 119, 120, 121, 122, 123, 124, 125, 126, 127, 128, 129, 130, 131, 132, 133, 134, 135, 136, 137, 138, 139, 140, 141, 55, 142, 67, 143, 144, 145, 60, 61, 62, 146, 147, 24, 148, 48, 149, 150, 51, 151, 152, 153, 154, 155, 156, 157, 158, 159, 68, 69, 213, 214, 215, 216] rfl (by decide +kernel)
set_option maxRecDepth 20000 in
theorem gX5_tellStatement_J4_append_bf812 : GoodIn wsX5_tellStatement (wsV RX5 148 RJ4 yJ4_append_bf812 wsJ4_append_bf812) := goodIn_app (goodIn_of _ (by decide +kernel)) ggX5_tellStatement_J4_append_bf812
set_option maxRecDepth 20000 in
theorem ggX5_tellStatement_J4_append_cf468 : GoodIn wsX5_tellStatement wsJ4_append_cf468 := goodIn_r _ [163, 164, 165, 77, 166, 79, 167, 81, 82, 87, 88, 89, 90, 91, 92, 93, 94, 95, 96, 97, 98, 99, 100, 101, 102, 103, 104, 105, 106, 107, 108, 109, 110, 111, 112, 113, 114, 115, 116, 117, 118, 119, 120, 121, 122, 123, 124, 125, 126, 127, 128, 129, 130, 131, 132, 133, 134, 168, 169, 43, 170, 171, 172, 173, 174, 175, 176, 177, 55, 178, 179, 180, 181, 182, 183, 184, 185, 186, 187, 188, 189, 190, 191, 60, 61, 62, 192, 193, 24, 194, 48, 195, 196, 51, 197, 157, 158, 159, 67, 68, 69, 198, 199, 200, 57, 58, 59, 63, 46, 47, 49, 50, 52, 213, 214, 215, 216] rfl (by decide +kernel)
set_option maxRecDepth 20000 in
theorem gX5_tellStatement_J4_append_cf468 : GoodIn wsX5_tellStatement (wsV RX5 169 RJ4 yJ4_append_cf468 wsJ4_append_cf468) := goodIn_app (goodIn_of _ (by decide +kernel)) ggX5_tellStatement_J4_append_cf468
set_option maxRecDepth 20000 in
theorem ggX5_wordingFor_X4_kind : GoodIn wsX5_wordingFor wsX4_kind := goodIn_r _ [8, 9, 24, 25, 26] rfl (by decide +kernel)
set_option maxRecDepth 20000 in
theorem gX5_wordingFor_X4_kind : GoodIn wsX5_wordingFor (wsV RX5 139 RX4 yX4_kind wsX4_kind) := goodIn_app (goodIn_of _ (by decide +kernel)) ggX5_wordingFor_X4_kind
set_option maxRecDepth 20000 in
theorem ggX5_wordingFor_X4_number : GoodIn wsX5_wordingFor wsX4_number := goodIn_r _ [13, 9, 14, 24, 25, 26] rfl (by decide +kernel)
set_option maxRecDepth 20000 in
theorem gX5_wordingFor_X4_number : GoodIn wsX5_wordingFor (wsV RX5 142 RX4 yX4_number wsX4_number) := goodIn_app (goodIn_of _ (by decide +kernel)) ggX5_wordingFor_X4_number
set_option maxRecDepth 20000 in
theorem ggX5_tellPremises_X2_premiseCount : GoodIn wsX5_tellPremises wsX2_premiseCount := goodIn_r _ [7, 8, 9, 10, 11, 6, 12, 13, 201, 202, 203, 204, 205] rfl (by decide +kernel)
set_option maxRecDepth 20000 in
theorem gX5_tellPremises_X2_premiseCount : GoodIn wsX5_tellPremises (wsV RX5 108 RX2 yX2_premiseCount wsX2_premiseCount) := goodIn_app (goodIn_of _ (by decide +kernel)) ggX5_tellPremises_X2_premiseCount
set_option maxRecDepth 20000 in
theorem ggX5_tellPremises_J4_append_15ec4 : GoodIn wsX5_tellPremises wsJ4_append_15ec4 := goodIn_r _ [18, 19, 20, 21, 22, 23, 24, 25, 26, 27, 28, 29, 30, 31, 32, 33, 34, 35, 36, 37, 38, 39, 40, 41, 42, 43, 44, 45, 46, 47, 48, 49, 50, 51, 52, 53, 54, 55, 56, 57, 58, 59, 60, 61, 62, 63, 64, 65, 66, 67, 68, 69, 70, 71, 72, 73, 74, 75, 76, 77, 78, 79, 80, 81, 82, 83, 84, 85, 86, 87, 88, 89, 90, 91, 92, 93, 94, 95, 96, 97, 98, 99, 100, 101, 102, 103, 104, 105, 106, 107, 108, 109, 110, 111, 112, 113, 114, 115, 116, 117, 118, 119, 120, 121, 122, 123, 124, 125, 126, 127, 128, 129, 130, 131, 132, 133, 134, 135, 136, 137, 138, 139, 140, 141, 142, 143, 144, 145, 146, 147, 148, 149, 150, 151, 152, 153, 154, 155, 156, 157, 158, 159, 160, 206, 207, 208, 209] rfl (by decide +kernel)
set_option maxRecDepth 20000 in
theorem gX5_tellPremises_J4_append_15ec4 : GoodIn wsX5_tellPremises (wsV RX5 154 RJ4 yJ4_append_15ec4 wsJ4_append_15ec4) := goodIn_app (goodIn_of _ (by decide +kernel)) ggX5_tellPremises_J4_append_15ec4
set_option maxRecDepth 20000 in
theorem ggX5_tellPremises_X2_premiseAt : GoodIn wsX5_tellPremises wsX2_premiseAt := goodIn_r _ [164, 165, 166, 4, 5, 6, 7, 8, 9, 10, 11, 12, 13, 201, 202, 203, 204, 205] rfl (by decide +kernel)
set_option maxRecDepth 20000 in
theorem gX5_tellPremises_X2_premiseAt : GoodIn wsX5_tellPremises (wsV RX5 214 RX2 yX2_premiseAt wsX2_premiseAt) := goodIn_app (goodIn_of _ (by decide +kernel)) ggX5_tellPremises_X2_premiseAt
set_option maxRecDepth 20000 in
theorem ggX5_tellPremises_J4_append_bf812 : GoodIn wsX5_tellPremises wsJ4_append_bf812 := goodIn_r _ [170, 171, 172, 21, 173, 23, 174, 25, 31, 175, 176, 177, 178, 32, 33, 34, 35, 36, 37, 38, 39, 40, 41, 42, 43, 44, 45, 46, 47, 48, 49, 50, 51, 52, 53, 54, 55, 56, 57, 58, 59, 60, 61, 62, 63, 64, 65, 66, 67, 68, 69, 70, 71, 72, 73, 74, 75, 76, 77, 78, 79, 179, 180, 181, 182, 183, 184, 185, 82, 186, 84, 85, 86, 87, 88, 89, 90, 91, 92, 93, 94, 95, 96, 97, 98, 99, 187, 188, 189, 190, 191, 100, 101, 102, 103, 104, 206, 207, 208, 209] rfl (by decide +kernel)
set_option maxRecDepth 20000 in
theorem gX5_tellPremises_J4_append_bf812 : GoodIn wsX5_tellPremises (wsV RX5 148 RJ4 yJ4_append_bf812 wsJ4_append_bf812) := goodIn_app (goodIn_of _ (by decide +kernel)) ggX5_tellPremises_J4_append_bf812
