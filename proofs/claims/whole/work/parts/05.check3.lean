set_option maxRecDepth 100000 in
theorem gk_140 : ∀ r ∈ gc_140, gc_ok 140 r = true := by decide +kernel
set_option maxRecDepth 100000 in
theorem gk_141 : ∀ r ∈ gc_141, gc_ok 141 r = true := by decide +kernel
set_option maxRecDepth 100000 in
theorem gk_142 : ∀ r ∈ gc_142, gc_ok 142 r = true := by decide +kernel
set_option maxRecDepth 100000 in
theorem gk_143 : ∀ r ∈ gc_143, gc_ok 143 r = true := by decide +kernel
set_option maxRecDepth 100000 in
theorem gk_144 : ∀ r ∈ gc_144, gc_ok 144 r = true := by decide +kernel
set_option maxRecDepth 100000 in
theorem gk_145 : ∀ r ∈ gc_145, gc_ok 145 r = true := by decide +kernel
set_option maxRecDepth 100000 in
theorem gk_146 : ∀ r ∈ gc_146, gc_ok 146 r = true := by decide +kernel
set_option maxRecDepth 100000 in
theorem gk_147 : ∀ r ∈ gc_147, gc_ok 147 r = true := by decide +kernel
set_option maxRecDepth 100000 in
theorem gk_148 : ∀ r ∈ gc_148, gc_ok 148 r = true := by decide +kernel
set_option maxRecDepth 100000 in
theorem gk_149 : ∀ r ∈ gc_149, gc_ok 149 r = true := by decide +kernel
set_option maxRecDepth 100000 in
theorem gk_150 : ∀ r ∈ gc_150, gc_ok 150 r = true := by decide +kernel
set_option maxRecDepth 100000 in
theorem gk_151 : ∀ r ∈ gc_151, gc_ok 151 r = true := by decide +kernel
set_option maxRecDepth 100000 in
theorem gk_152 : ∀ r ∈ gc_152, gc_ok 152 r = true := by decide +kernel
set_option maxRecDepth 100000 in
theorem gk_153 : ∀ r ∈ gc_153, gc_ok 153 r = true := by decide +kernel
set_option maxRecDepth 100000 in
theorem gk_154 : ∀ r ∈ gc_154, gc_ok 154 r = true := by decide +kernel
set_option maxRecDepth 100000 in
theorem gk_155 : ∀ r ∈ gc_155, gc_ok 155 r = true := by decide +kernel
set_option maxRecDepth 100000 in
theorem gk_156 : ∀ r ∈ gc_156, gc_ok 156 r = true := by decide +kernel
set_option maxRecDepth 100000 in
theorem gk_157 : ∀ r ∈ gc_157, gc_ok 157 r = true := by decide +kernel
set_option maxRecDepth 100000 in
theorem gk_158 : ∀ r ∈ gc_158, gc_ok 158 r = true := by decide +kernel
set_option maxRecDepth 100000 in
theorem gk_159 : ∀ r ∈ gc_159, gc_ok 159 r = true := by decide +kernel
set_option maxRecDepth 100000 in
theorem gk_160 : ∀ r ∈ gc_160, gc_ok 160 r = true := by decide +kernel
set_option maxRecDepth 100000 in
theorem gk_161 : ∀ r ∈ gc_161, gc_ok 161 r = true := by decide +kernel
set_option maxRecDepth 100000 in
theorem gk_162 : ∀ r ∈ gc_162, gc_ok 162 r = true := by decide +kernel
set_option maxRecDepth 100000 in
theorem gk_163 : ∀ r ∈ gc_163, gc_ok 163 r = true := by decide +kernel
