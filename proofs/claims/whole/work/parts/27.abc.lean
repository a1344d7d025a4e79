/-! how many bits a number has whose nibbles are 0, 1, 3, 7 or 15 -/
def pw (v : Nat) : Nat := 2 ^ v - 1
def n6 (a b c d e f : Nat) : Nat := pw a + 16 * pw b + 256 * pw c + 4096 * pw d + 65536 * pw e + 1048576 * pw f
set_option maxRecDepth 100000 in
theorem bc_00 : ∀ c, c < 5 → ∀ d, d < 5 → ∀ e, e < 5 → ∀ f, f < 5 → bcI (nI (n6 0 0 c d e f)) = nI (0 + 0 + c + d + e + f) := by decide +kernel
set_option maxRecDepth 100000 in
theorem bc_01 : ∀ c, c < 5 → ∀ d, d < 5 → ∀ e, e < 5 → ∀ f, f < 5 → bcI (nI (n6 0 1 c d e f)) = nI (0 + 1 + c + d + e + f) := by decide +kernel
set_option maxRecDepth 100000 in
theorem bc_02 : ∀ c, c < 5 → ∀ d, d < 5 → ∀ e, e < 5 → ∀ f, f < 5 → bcI (nI (n6 0 2 c d e f)) = nI (0 + 2 + c + d + e + f) := by decide +kernel
set_option maxRecDepth 100000 in
theorem bc_03 : ∀ c, c < 5 → ∀ d, d < 5 → ∀ e, e < 5 → ∀ f, f < 5 → bcI (nI (n6 0 3 c d e f)) = nI (0 + 3 + c + d + e + f) := by decide +kernel
set_option maxRecDepth 100000 in
theorem bc_04 : ∀ c, c < 5 → ∀ d, d < 5 → ∀ e, e < 5 → ∀ f, f < 5 → bcI (nI (n6 0 4 c d e f)) = nI (0 + 4 + c + d + e + f) := by decide +kernel
set_option maxRecDepth 100000 in
theorem bc_10 : ∀ c, c < 5 → ∀ d, d < 5 → ∀ e, e < 5 → ∀ f, f < 5 → bcI (nI (n6 1 0 c d e f)) = nI (1 + 0 + c + d + e + f) := by decide +kernel
set_option maxRecDepth 100000 in
theorem bc_11 : ∀ c, c < 5 → ∀ d, d < 5 → ∀ e, e < 5 → ∀ f, f < 5 → bcI (nI (n6 1 1 c d e f)) = nI (1 + 1 + c + d + e + f) := by decide +kernel
set_option maxRecDepth 100000 in
theorem bc_12 : ∀ c, c < 5 → ∀ d, d < 5 → ∀ e, e < 5 → ∀ f, f < 5 → bcI (nI (n6 1 2 c d e f)) = nI (1 + 2 + c + d + e + f) := by decide +kernel
set_option maxRecDepth 100000 in
theorem bc_13 : ∀ c, c < 5 → ∀ d, d < 5 → ∀ e, e < 5 → ∀ f, f < 5 → bcI (nI (n6 1 3 c d e f)) = nI (1 + 3 + c + d + e + f) := by decide +kernel
set_option maxRecDepth 100000 in
theorem bc_14 : ∀ c, c < 5 → ∀ d, d < 5 → ∀ e, e < 5 → ∀ f, f < 5 → bcI (nI (n6 1 4 c d e f)) = nI (1 + 4 + c + d + e + f) := by decide +kernel
set_option maxRecDepth 100000 in
theorem bc_20 : ∀ c, c < 5 → ∀ d, d < 5 → ∀ e, e < 5 → ∀ f, f < 5 → bcI (nI (n6 2 0 c d e f)) = nI (2 + 0 + c + d + e + f) := by decide +kernel
set_option maxRecDepth 100000 in
theorem bc_21 : ∀ c, c < 5 → ∀ d, d < 5 → ∀ e, e < 5 → ∀ f, f < 5 → bcI (nI (n6 2 1 c d e f)) = nI (2 + 1 + c + d + e + f) := by decide +kernel
set_option maxRecDepth 100000 in
theorem bc_22 : ∀ c, c < 5 → ∀ d, d < 5 → ∀ e, e < 5 → ∀ f, f < 5 → bcI (nI (n6 2 2 c d e f)) = nI (2 + 2 + c + d + e + f) := by decide +kernel
set_option maxRecDepth 100000 in
theorem bc_23 : ∀ c, c < 5 → ∀ d, d < 5 → ∀ e, e < 5 → ∀ f, f < 5 → bcI (nI (n6 2 3 c d e f)) = nI (2 + 3 + c + d + e + f) := by decide +kernel
set_option maxRecDepth 100000 in
theorem bc_24 : ∀ c, c < 5 → ∀ d, d < 5 → ∀ e, e < 5 → ∀ f, f < 5 → bcI (nI (n6 2 4 c d e f)) = nI (2 + 4 + c + d + e + f) := by decide +kernel
set_option maxRecDepth 100000 in
theorem bc_30 : ∀ c, c < 5 → ∀ d, d < 5 → ∀ e, e < 5 → ∀ f, f < 5 → bcI (nI (n6 3 0 c d e f)) = nI (3 + 0 + c + d + e + f) := by decide +kernel
set_option maxRecDepth 100000 in
theorem bc_31 : ∀ c, c < 5 → ∀ d, d < 5 → ∀ e, e < 5 → ∀ f, f < 5 → bcI (nI (n6 3 1 c d e f)) = nI (3 + 1 + c + d + e + f) := by decide +kernel
set_option maxRecDepth 100000 in
theorem bc_32 : ∀ c, c < 5 → ∀ d, d < 5 → ∀ e, e < 5 → ∀ f, f < 5 → bcI (nI (n6 3 2 c d e f)) = nI (3 + 2 + c + d + e + f) := by decide +kernel
set_option maxRecDepth 100000 in
theorem bc_33 : ∀ c, c < 5 → ∀ d, d < 5 → ∀ e, e < 5 → ∀ f, f < 5 → bcI (nI (n6 3 3 c d e f)) = nI (3 + 3 + c + d + e + f) := by decide +kernel
set_option maxRecDepth 100000 in
theorem bc_34 : ∀ c, c < 5 → ∀ d, d < 5 → ∀ e, e < 5 → ∀ f, f < 5 → bcI (nI (n6 3 4 c d e f)) = nI (3 + 4 + c + d + e + f) := by decide +kernel
set_option maxRecDepth 100000 in
theorem bc_40 : ∀ c, c < 5 → ∀ d, d < 5 → ∀ e, e < 5 → ∀ f, f < 5 → bcI (nI (n6 4 0 c d e f)) = nI (4 + 0 + c + d + e + f) := by decide +kernel
set_option maxRecDepth 100000 in
theorem bc_41 : ∀ c, c < 5 → ∀ d, d < 5 → ∀ e, e < 5 → ∀ f, f < 5 → bcI (nI (n6 4 1 c d e f)) = nI (4 + 1 + c + d + e + f) := by decide +kernel
set_option maxRecDepth 100000 in
theorem bc_42 : ∀ c, c < 5 → ∀ d, d < 5 → ∀ e, e < 5 → ∀ f, f < 5 → bcI (nI (n6 4 2 c d e f)) = nI (4 + 2 + c + d + e + f) := by decide +kernel
set_option maxRecDepth 100000 in
theorem bc_43 : ∀ c, c < 5 → ∀ d, d < 5 → ∀ e, e < 5 → ∀ f, f < 5 → bcI (nI (n6 4 3 c d e f)) = nI (4 + 3 + c + d + e + f) := by decide +kernel
set_option maxRecDepth 100000 in
theorem bc_44 : ∀ c, c < 5 → ∀ d, d < 5 → ∀ e, e < 5 → ∀ f, f < 5 → bcI (nI (n6 4 4 c d e f)) = nI (4 + 4 + c + d + e + f) := by decide +kernel
theorem bc_n6 {a b c d e f : Nat} (ha : a < 5) (hb : b < 5) (hc : c < 5) (hd : d < 5) (he : e < 5) (hf : f < 5) : bcI (nI (n6 a b c d e f)) = nI (a + b + c + d + e + f) := by
  rcases (show a = 0 ∨ a = 1 ∨ a = 2 ∨ a = 3 ∨ a = 4 by omega) with rfl | rfl | rfl | rfl | rfl
  · rcases (show b = 0 ∨ b = 1 ∨ b = 2 ∨ b = 3 ∨ b = 4 by omega) with rfl | rfl | rfl | rfl | rfl
    · exact bc_00 c hc d hd e he f hf
    · exact bc_01 c hc d hd e he f hf
    · exact bc_02 c hc d hd e he f hf
    · exact bc_03 c hc d hd e he f hf
    · exact bc_04 c hc d hd e he f hf
  · rcases (show b = 0 ∨ b = 1 ∨ b = 2 ∨ b = 3 ∨ b = 4 by omega) with rfl | rfl | rfl | rfl | rfl
    · exact bc_10 c hc d hd e he f hf
    · exact bc_11 c hc d hd e he f hf
    · exact bc_12 c hc d hd e he f hf
    · exact bc_13 c hc d hd e he f hf
    · exact bc_14 c hc d hd e he f hf
  · rcases (show b = 0 ∨ b = 1 ∨ b = 2 ∨ b = 3 ∨ b = 4 by omega) with rfl | rfl | rfl | rfl | rfl
    · exact bc_20 c hc d hd e he f hf
    · exact bc_21 c hc d hd e he f hf
    · exact bc_22 c hc d hd e he f hf
    · exact bc_23 c hc d hd e he f hf
    · exact bc_24 c hc d hd e he f hf
  · rcases (show b = 0 ∨ b = 1 ∨ b = 2 ∨ b = 3 ∨ b = 4 by omega) with rfl | rfl | rfl | rfl | rfl
    · exact bc_30 c hc d hd e he f hf
    · exact bc_31 c hc d hd e he f hf
    · exact bc_32 c hc d hd e he f hf
    · exact bc_33 c hc d hd e he f hf
    · exact bc_34 c hc d hd e he f hf
  · rcases (show b = 0 ∨ b = 1 ∨ b = 2 ∨ b = 3 ∨ b = 4 by omega) with rfl | rfl | rfl | rfl | rfl
    · exact bc_40 c hc d hd e he f hf
    · exact bc_41 c hc d hd e he f hf
    · exact bc_42 c hc d hd e he f hf
    · exact bc_43 c hc d hd e he f hf
    · exact bc_44 c hc d hd e he f hf
