set_option maxRecDepth 100000 in
theorem gk_164_0 : ∀ r ∈ gc_164_0, gc_ok 164 r = true := by decide +kernel
set_option maxRecDepth 100000 in
theorem gk_164_1 : ∀ r ∈ gc_164_1, gc_ok 164 r = true := by decide +kernel
set_option maxRecDepth 100000 in
theorem gk_164_2 : ∀ r ∈ gc_164_2, gc_ok 164 r = true := by decide +kernel
set_option maxRecDepth 100000 in
theorem gk_164_3 : ∀ r ∈ gc_164_3, gc_ok 164 r = true := by decide +kernel
set_option maxRecDepth 100000 in
theorem gk_164_4 : ∀ r ∈ gc_164_4, gc_ok 164 r = true := by decide +kernel
set_option maxRecDepth 100000 in
theorem gk_164_5 : ∀ r ∈ gc_164_5, gc_ok 164 r = true := by decide +kernel
set_option maxRecDepth 100000 in
theorem gk_164_6 : ∀ r ∈ gc_164_6, gc_ok 164 r = true := by decide +kernel
set_option maxRecDepth 100000 in
theorem gk_164_7 : ∀ r ∈ gc_164_7, gc_ok 164 r = true := by decide +kernel
set_option maxRecDepth 100000 in
theorem gk_164_8 : ∀ r ∈ gc_164_8, gc_ok 164 r = true := by decide +kernel
set_option maxRecDepth 100000 in
theorem gk_164_9 : ∀ r ∈ gc_164_9, gc_ok 164 r = true := by decide +kernel
set_option maxRecDepth 100000 in
theorem gk_164_10 : ∀ r ∈ gc_164_10, gc_ok 164 r = true := by decide +kernel
set_option maxRecDepth 100000 in
theorem gk_164_11 : ∀ r ∈ gc_164_11, gc_ok 164 r = true := by decide +kernel
set_option maxRecDepth 100000 in
theorem gk_164_12 : ∀ r ∈ gc_164_12, gc_ok 164 r = true := by decide +kernel
set_option maxRecDepth 100000 in
theorem gk_164_13 : ∀ r ∈ gc_164_13, gc_ok 164 r = true := by decide +kernel
set_option maxRecDepth 100000 in
theorem gk_164_14 : ∀ r ∈ gc_164_14, gc_ok 164 r = true := by decide +kernel
set_option maxRecDepth 100000 in
theorem gk_164_15 : ∀ r ∈ gc_164_15, gc_ok 164 r = true := by decide +kernel
theorem gk_164 : ∀ r ∈ gc_164, gc_ok 164 r = true := List.forall_mem_append.mpr ⟨gk_164_0, List.forall_mem_append.mpr ⟨gk_164_1, List.forall_mem_append.mpr ⟨gk_164_2, List.forall_mem_append.mpr ⟨gk_164_3, List.forall_mem_append.mpr ⟨gk_164_4, List.forall_mem_append.mpr ⟨gk_164_5, List.forall_mem_append.mpr ⟨gk_164_6, List.forall_mem_append.mpr ⟨gk_164_7, List.forall_mem_append.mpr ⟨gk_164_8, List.forall_mem_append.mpr ⟨gk_164_9, List.forall_mem_append.mpr ⟨gk_164_10, List.forall_mem_append.mpr ⟨gk_164_11, List.forall_mem_append.mpr ⟨gk_164_12, List.forall_mem_append.mpr ⟨gk_164_13, List.forall_mem_append.mpr ⟨gk_164_14, gk_164_15⟩⟩⟩⟩⟩⟩⟩⟩⟩⟩⟩⟩⟩⟩⟩
