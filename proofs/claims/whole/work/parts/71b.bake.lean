/-! ===== mean, fair: the reference ===== -/
def gy_k (pf : Nat → Bool) : Nat → Int32
  | 0 => 0
  | g + 1 => gy_k pf g + (if pf g then 1 else 0)
theorem gy_k_on : ∀ h0, h0 < 9 → ∀ L, L < 9 → h0 + L < 9 → ∀ p, p < 256 → gz_on (Int32.ofNat p &&& gz_lf (h0 + L) h0) 8 = gy_k (fun q => gz_in (Int32.ofNat p) (Int32.ofNat (h0 + q))) L := by decide +kernel
