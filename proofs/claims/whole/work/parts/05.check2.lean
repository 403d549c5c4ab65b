set_option maxRecDepth 100000 in
theorem gk_106 : ∀ r ∈ gc_106, gc_ok 106 r = true := by decide +kernel
set_option maxRecDepth 100000 in
theorem gk_107 : ∀ r ∈ gc_107, gc_ok 107 r = true := by decide +kernel
set_option maxRecDepth 100000 in
theorem gk_108 : ∀ r ∈ gc_108, gc_ok 108 r = true := by decide +kernel
set_option maxRecDepth 100000 in
theorem gk_109 : ∀ r ∈ gc_109, gc_ok 109 r = true := by decide +kernel
set_option maxRecDepth 100000 in
theorem gk_110 : ∀ r ∈ gc_110, gc_ok 110 r = true := by decide +kernel
set_option maxRecDepth 100000 in
theorem gk_111 : ∀ r ∈ gc_111, gc_ok 111 r = true := by decide +kernel
set_option maxRecDepth 100000 in
theorem gk_112 : ∀ r ∈ gc_112, gc_ok 112 r = true := by decide +kernel
set_option maxRecDepth 100000 in
theorem gk_113 : ∀ r ∈ gc_113, gc_ok 113 r = true := by decide +kernel
set_option maxRecDepth 100000 in
theorem gk_114 : ∀ r ∈ gc_114, gc_ok 114 r = true := by decide +kernel
set_option maxRecDepth 100000 in
theorem gk_115 : ∀ r ∈ gc_115, gc_ok 115 r = true := by decide +kernel
set_option maxRecDepth 100000 in
theorem gk_116 : ∀ r ∈ gc_116, gc_ok 116 r = true := by decide +kernel
set_option maxRecDepth 100000 in
theorem gk_117 : ∀ r ∈ gc_117, gc_ok 117 r = true := by decide +kernel
set_option maxRecDepth 100000 in
theorem gk_118 : ∀ r ∈ gc_118, gc_ok 118 r = true := by decide +kernel
set_option maxRecDepth 100000 in
theorem gk_119 : ∀ r ∈ gc_119, gc_ok 119 r = true := by decide +kernel
set_option maxRecDepth 100000 in
theorem gk_120 : ∀ r ∈ gc_120, gc_ok 120 r = true := by decide +kernel
set_option maxRecDepth 100000 in
theorem gk_121 : ∀ r ∈ gc_121, gc_ok 121 r = true := by decide +kernel
set_option maxRecDepth 100000 in
theorem gk_122 : ∀ r ∈ gc_122, gc_ok 122 r = true := by decide +kernel
set_option maxRecDepth 100000 in
theorem gk_123 : ∀ r ∈ gc_123, gc_ok 123 r = true := by decide +kernel
set_option maxRecDepth 100000 in
theorem gk_124 : ∀ r ∈ gc_124, gc_ok 124 r = true := by decide +kernel
set_option maxRecDepth 100000 in
theorem gk_125 : ∀ r ∈ gc_125, gc_ok 125 r = true := by decide +kernel
set_option maxRecDepth 100000 in
theorem gk_126 : ∀ r ∈ gc_126, gc_ok 126 r = true := by decide +kernel
set_option maxRecDepth 100000 in
theorem gk_127 : ∀ r ∈ gc_127, gc_ok 127 r = true := by decide +kernel
set_option maxRecDepth 100000 in
theorem gk_128 : ∀ r ∈ gc_128, gc_ok 128 r = true := by decide +kernel
set_option maxRecDepth 100000 in
theorem gk_129 : ∀ r ∈ gc_129, gc_ok 129 r = true := by decide +kernel
set_option maxRecDepth 100000 in
theorem gk_130 : ∀ r ∈ gc_130, gc_ok 130 r = true := by decide +kernel
set_option maxRecDepth 100000 in
theorem gk_131 : ∀ r ∈ gc_131, gc_ok 131 r = true := by decide +kernel
set_option maxRecDepth 100000 in
theorem gk_132 : ∀ r ∈ gc_132, gc_ok 132 r = true := by decide +kernel
set_option maxRecDepth 100000 in
theorem gk_133 : ∀ r ∈ gc_133, gc_ok 133 r = true := by decide +kernel
set_option maxRecDepth 100000 in
theorem gk_134 : ∀ r ∈ gc_134, gc_ok 134 r = true := by decide +kernel
set_option maxRecDepth 100000 in
theorem gk_135 : ∀ r ∈ gc_135, gc_ok 135 r = true := by decide +kernel
set_option maxRecDepth 100000 in
theorem gk_136 : ∀ r ∈ gc_136, gc_ok 136 r = true := by decide +kernel
set_option maxRecDepth 100000 in
theorem gk_137 : ∀ r ∈ gc_137, gc_ok 137 r = true := by decide +kernel
set_option maxRecDepth 100000 in
theorem gk_138 : ∀ r ∈ gc_138, gc_ok 138 r = true := by decide +kernel
set_option maxRecDepth 100000 in
theorem gk_139 : ∀ r ∈ gc_139, gc_ok 139 r = true := by decide +kernel
