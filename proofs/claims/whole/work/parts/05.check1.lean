set_option maxRecDepth 100000 in
theorem gk_63 : ∀ r ∈ gc_63, gc_ok 63 r = true := by decide +kernel
set_option maxRecDepth 100000 in
theorem gk_64 : ∀ r ∈ gc_64, gc_ok 64 r = true := by decide +kernel
set_option maxRecDepth 100000 in
theorem gk_65 : ∀ r ∈ gc_65, gc_ok 65 r = true := by decide +kernel
set_option maxRecDepth 100000 in
theorem gk_66 : ∀ r ∈ gc_66, gc_ok 66 r = true := by decide +kernel
set_option maxRecDepth 100000 in
theorem gk_67 : ∀ r ∈ gc_67, gc_ok 67 r = true := by decide +kernel
set_option maxRecDepth 100000 in
theorem gk_68 : ∀ r ∈ gc_68, gc_ok 68 r = true := by decide +kernel
set_option maxRecDepth 100000 in
theorem gk_69 : ∀ r ∈ gc_69, gc_ok 69 r = true := by decide +kernel
set_option maxRecDepth 100000 in
theorem gk_70 : ∀ r ∈ gc_70, gc_ok 70 r = true := by decide +kernel
set_option maxRecDepth 100000 in
theorem gk_71 : ∀ r ∈ gc_71, gc_ok 71 r = true := by decide +kernel
set_option maxRecDepth 100000 in
theorem gk_72 : ∀ r ∈ gc_72, gc_ok 72 r = true := by decide +kernel
set_option maxRecDepth 100000 in
theorem gk_73 : ∀ r ∈ gc_73, gc_ok 73 r = true := by decide +kernel
set_option maxRecDepth 100000 in
theorem gk_74 : ∀ r ∈ gc_74, gc_ok 74 r = true := by decide +kernel
set_option maxRecDepth 100000 in
theorem gk_75 : ∀ r ∈ gc_75, gc_ok 75 r = true := by decide +kernel
set_option maxRecDepth 100000 in
theorem gk_76 : ∀ r ∈ gc_76, gc_ok 76 r = true := by decide +kernel
set_option maxRecDepth 100000 in
theorem gk_77 : ∀ r ∈ gc_77, gc_ok 77 r = true := by decide +kernel
set_option maxRecDepth 100000 in
theorem gk_78 : ∀ r ∈ gc_78, gc_ok 78 r = true := by decide +kernel
set_option maxRecDepth 100000 in
theorem gk_79 : ∀ r ∈ gc_79, gc_ok 79 r = true := by decide +kernel
set_option maxRecDepth 100000 in
theorem gk_80 : ∀ r ∈ gc_80, gc_ok 80 r = true := by decide +kernel
set_option maxRecDepth 100000 in
theorem gk_81 : ∀ r ∈ gc_81, gc_ok 81 r = true := by decide +kernel
set_option maxRecDepth 100000 in
theorem gk_82 : ∀ r ∈ gc_82, gc_ok 82 r = true := by decide +kernel
set_option maxRecDepth 100000 in
theorem gk_83 : ∀ r ∈ gc_83, gc_ok 83 r = true := by decide +kernel
set_option maxRecDepth 100000 in
theorem gk_84 : ∀ r ∈ gc_84, gc_ok 84 r = true := by decide +kernel
set_option maxRecDepth 100000 in
theorem gk_85 : ∀ r ∈ gc_85, gc_ok 85 r = true := by decide +kernel
set_option maxRecDepth 100000 in
theorem gk_86 : ∀ r ∈ gc_86, gc_ok 86 r = true := by decide +kernel
set_option maxRecDepth 100000 in
theorem gk_87 : ∀ r ∈ gc_87, gc_ok 87 r = true := by decide +kernel
set_option maxRecDepth 100000 in
theorem gk_88 : ∀ r ∈ gc_88, gc_ok 88 r = true := by decide +kernel
set_option maxRecDepth 100000 in
theorem gk_89 : ∀ r ∈ gc_89, gc_ok 89 r = true := by decide +kernel
set_option maxRecDepth 100000 in
theorem gk_90 : ∀ r ∈ gc_90, gc_ok 90 r = true := by decide +kernel
set_option maxRecDepth 100000 in
theorem gk_91 : ∀ r ∈ gc_91, gc_ok 91 r = true := by decide +kernel
set_option maxRecDepth 100000 in
theorem gk_92 : ∀ r ∈ gc_92, gc_ok 92 r = true := by decide +kernel
set_option maxRecDepth 100000 in
theorem gk_93 : ∀ r ∈ gc_93, gc_ok 93 r = true := by decide +kernel
set_option maxRecDepth 100000 in
theorem gk_94 : ∀ r ∈ gc_94, gc_ok 94 r = true := by decide +kernel
set_option maxRecDepth 100000 in
theorem gk_95 : ∀ r ∈ gc_95, gc_ok 95 r = true := by decide +kernel
set_option maxRecDepth 100000 in
theorem gk_96 : ∀ r ∈ gc_96, gc_ok 96 r = true := by decide +kernel
set_option maxRecDepth 100000 in
theorem gk_97 : ∀ r ∈ gc_97, gc_ok 97 r = true := by decide +kernel
set_option maxRecDepth 100000 in
theorem gk_98 : ∀ r ∈ gc_98, gc_ok 98 r = true := by decide +kernel
set_option maxRecDepth 100000 in
theorem gk_99 : ∀ r ∈ gc_99, gc_ok 99 r = true := by decide +kernel
set_option maxRecDepth 100000 in
theorem gk_100 : ∀ r ∈ gc_100, gc_ok 100 r = true := by decide +kernel
set_option maxRecDepth 100000 in
theorem gk_101 : ∀ r ∈ gc_101, gc_ok 101 r = true := by decide +kernel
set_option maxRecDepth 100000 in
theorem gk_102 : ∀ r ∈ gc_102, gc_ok 102 r = true := by decide +kernel
set_option maxRecDepth 100000 in
theorem gk_103 : ∀ r ∈ gc_103, gc_ok 103 r = true := by decide +kernel
set_option maxRecDepth 100000 in
theorem gk_104 : ∀ r ∈ gc_104, gc_ok 104 r = true := by decide +kernel
set_option maxRecDepth 100000 in
theorem gk_105 : ∀ r ∈ gc_105, gc_ok 105 r = true := by decide +kernel
