set_option maxRecDepth 100000 in
theorem gk_0 : ∀ r ∈ gc_0, gc_ok 0 r = true := by decide +kernel
set_option maxRecDepth 100000 in
theorem gk_1 : ∀ r ∈ gc_1, gc_ok 1 r = true := by decide +kernel
set_option maxRecDepth 100000 in
theorem gk_2 : ∀ r ∈ gc_2, gc_ok 2 r = true := by decide +kernel
set_option maxRecDepth 100000 in
theorem gk_3 : ∀ r ∈ gc_3, gc_ok 3 r = true := by decide +kernel
set_option maxRecDepth 100000 in
theorem gk_4 : ∀ r ∈ gc_4, gc_ok 4 r = true := by decide +kernel
set_option maxRecDepth 100000 in
theorem gk_5 : ∀ r ∈ gc_5, gc_ok 5 r = true := by decide +kernel
set_option maxRecDepth 100000 in
theorem gk_6 : ∀ r ∈ gc_6, gc_ok 6 r = true := by decide +kernel
set_option maxRecDepth 100000 in
theorem gk_7 : ∀ r ∈ gc_7, gc_ok 7 r = true := by decide +kernel
set_option maxRecDepth 100000 in
theorem gk_8 : ∀ r ∈ gc_8, gc_ok 8 r = true := by decide +kernel
set_option maxRecDepth 100000 in
theorem gk_9 : ∀ r ∈ gc_9, gc_ok 9 r = true := by decide +kernel
set_option maxRecDepth 100000 in
theorem gk_10 : ∀ r ∈ gc_10, gc_ok 10 r = true := by decide +kernel
set_option maxRecDepth 100000 in
theorem gk_11 : ∀ r ∈ gc_11, gc_ok 11 r = true := by decide +kernel
set_option maxRecDepth 100000 in
theorem gk_12 : ∀ r ∈ gc_12, gc_ok 12 r = true := by decide +kernel
set_option maxRecDepth 100000 in
theorem gk_13 : ∀ r ∈ gc_13, gc_ok 13 r = true := by decide +kernel
set_option maxRecDepth 100000 in
theorem gk_14 : ∀ r ∈ gc_14, gc_ok 14 r = true := by decide +kernel
set_option maxRecDepth 100000 in
theorem gk_15 : ∀ r ∈ gc_15, gc_ok 15 r = true := by decide +kernel
set_option maxRecDepth 100000 in
theorem gk_16 : ∀ r ∈ gc_16, gc_ok 16 r = true := by decide +kernel
set_option maxRecDepth 100000 in
theorem gk_17 : ∀ r ∈ gc_17, gc_ok 17 r = true := by decide +kernel
set_option maxRecDepth 100000 in
theorem gk_18 : ∀ r ∈ gc_18, gc_ok 18 r = true := by decide +kernel
set_option maxRecDepth 100000 in
theorem gk_19 : ∀ r ∈ gc_19, gc_ok 19 r = true := by decide +kernel
set_option maxRecDepth 100000 in
theorem gk_20 : ∀ r ∈ gc_20, gc_ok 20 r = true := by decide +kernel
set_option maxRecDepth 100000 in
theorem gk_21 : ∀ r ∈ gc_21, gc_ok 21 r = true := by decide +kernel
set_option maxRecDepth 100000 in
theorem gk_22 : ∀ r ∈ gc_22, gc_ok 22 r = true := by decide +kernel
set_option maxRecDepth 100000 in
theorem gk_23 : ∀ r ∈ gc_23, gc_ok 23 r = true := by decide +kernel
set_option maxRecDepth 100000 in
theorem gk_24 : ∀ r ∈ gc_24, gc_ok 24 r = true := by decide +kernel
set_option maxRecDepth 100000 in
theorem gk_25 : ∀ r ∈ gc_25, gc_ok 25 r = true := by decide +kernel
set_option maxRecDepth 100000 in
theorem gk_26 : ∀ r ∈ gc_26, gc_ok 26 r = true := by decide +kernel
set_option maxRecDepth 100000 in
theorem gk_27 : ∀ r ∈ gc_27, gc_ok 27 r = true := by decide +kernel
set_option maxRecDepth 100000 in
theorem gk_28 : ∀ r ∈ gc_28, gc_ok 28 r = true := by decide +kernel
set_option maxRecDepth 100000 in
theorem gk_29 : ∀ r ∈ gc_29, gc_ok 29 r = true := by decide +kernel
set_option maxRecDepth 100000 in
theorem gk_30 : ∀ r ∈ gc_30, gc_ok 30 r = true := by decide +kernel
set_option maxRecDepth 100000 in
theorem gk_31 : ∀ r ∈ gc_31, gc_ok 31 r = true := by decide +kernel
set_option maxRecDepth 100000 in
theorem gk_32 : ∀ r ∈ gc_32, gc_ok 32 r = true := by decide +kernel
set_option maxRecDepth 100000 in
theorem gk_33 : ∀ r ∈ gc_33, gc_ok 33 r = true := by decide +kernel
set_option maxRecDepth 100000 in
theorem gk_34 : ∀ r ∈ gc_34, gc_ok 34 r = true := by decide +kernel
set_option maxRecDepth 100000 in
theorem gk_35 : ∀ r ∈ gc_35, gc_ok 35 r = true := by decide +kernel
set_option maxRecDepth 100000 in
theorem gk_36 : ∀ r ∈ gc_36, gc_ok 36 r = true := by decide +kernel
set_option maxRecDepth 100000 in
theorem gk_37 : ∀ r ∈ gc_37, gc_ok 37 r = true := by decide +kernel
set_option maxRecDepth 100000 in
theorem gk_38 : ∀ r ∈ gc_38, gc_ok 38 r = true := by decide +kernel
set_option maxRecDepth 100000 in
theorem gk_39 : ∀ r ∈ gc_39, gc_ok 39 r = true := by decide +kernel
set_option maxRecDepth 100000 in
theorem gk_40 : ∀ r ∈ gc_40, gc_ok 40 r = true := by decide +kernel
set_option maxRecDepth 100000 in
theorem gk_41 : ∀ r ∈ gc_41, gc_ok 41 r = true := by decide +kernel
set_option maxRecDepth 100000 in
theorem gk_42 : ∀ r ∈ gc_42, gc_ok 42 r = true := by decide +kernel
set_option maxRecDepth 100000 in
theorem gk_43 : ∀ r ∈ gc_43, gc_ok 43 r = true := by decide +kernel
set_option maxRecDepth 100000 in
theorem gk_44 : ∀ r ∈ gc_44, gc_ok 44 r = true := by decide +kernel
set_option maxRecDepth 100000 in
theorem gk_45 : ∀ r ∈ gc_45, gc_ok 45 r = true := by decide +kernel
set_option maxRecDepth 100000 in
theorem gk_46 : ∀ r ∈ gc_46, gc_ok 46 r = true := by decide +kernel
set_option maxRecDepth 100000 in
theorem gk_47 : ∀ r ∈ gc_47, gc_ok 47 r = true := by decide +kernel
set_option maxRecDepth 100000 in
theorem gk_48 : ∀ r ∈ gc_48, gc_ok 48 r = true := by decide +kernel
set_option maxRecDepth 100000 in
theorem gk_49 : ∀ r ∈ gc_49, gc_ok 49 r = true := by decide +kernel
set_option maxRecDepth 100000 in
theorem gk_50 : ∀ r ∈ gc_50, gc_ok 50 r = true := by decide +kernel
set_option maxRecDepth 100000 in
theorem gk_51 : ∀ r ∈ gc_51, gc_ok 51 r = true := by decide +kernel
set_option maxRecDepth 100000 in
theorem gk_52 : ∀ r ∈ gc_52, gc_ok 52 r = true := by decide +kernel
set_option maxRecDepth 100000 in
theorem gk_53 : ∀ r ∈ gc_53, gc_ok 53 r = true := by decide +kernel
set_option maxRecDepth 100000 in
theorem gk_54 : ∀ r ∈ gc_54, gc_ok 54 r = true := by decide +kernel
set_option maxRecDepth 100000 in
theorem gk_55 : ∀ r ∈ gc_55, gc_ok 55 r = true := by decide +kernel
set_option maxRecDepth 100000 in
theorem gk_56 : ∀ r ∈ gc_56, gc_ok 56 r = true := by decide +kernel
set_option maxRecDepth 100000 in
theorem gk_57 : ∀ r ∈ gc_57, gc_ok 57 r = true := by decide +kernel
set_option maxRecDepth 100000 in
theorem gk_58 : ∀ r ∈ gc_58, gc_ok 58 r = true := by decide +kernel
set_option maxRecDepth 100000 in
theorem gk_59 : ∀ r ∈ gc_59, gc_ok 59 r = true := by decide +kernel
set_option maxRecDepth 100000 in
theorem gk_60 : ∀ r ∈ gc_60, gc_ok 60 r = true := by decide +kernel
set_option maxRecDepth 100000 in
theorem gk_61 : ∀ r ∈ gc_61, gc_ok 61 r = true := by decide +kernel
set_option maxRecDepth 100000 in
theorem gk_62 : ∀ r ∈ gc_62, gc_ok 62 r = true := by decide +kernel
