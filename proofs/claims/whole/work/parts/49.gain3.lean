section GC
set_option maxRecDepth 100000 in
theorem rb_all : ∀ a, a < 199 → ∀ g, g < 17 → (decide (-99 ≤ (r_t (Int32.ofNat a - 99) (Int32.ofNat g)).2) && decide ((r_t (Int32.ofNat a - 99) (Int32.ofNat g)).2 ≤ 99)) = true := by decide +kernel
end GC
