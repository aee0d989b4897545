theorem fd2_c0 : ∀ b : Fin 7, ∀ a : Fin 253, vf_n64 (FP.f2d (FP.fdiv (FP.i2f (nI a.1)) (FP.i2f (nI (0 + b.1 + 1))))) := by unfold vf_n64; decide +kernel
theorem fd2_c1 : ∀ b : Fin 7, ∀ a : Fin 253, vf_n64 (FP.f2d (FP.fdiv (FP.i2f (nI a.1)) (FP.i2f (nI (7 + b.1 + 1))))) := by unfold vf_n64; decide +kernel
theorem fd2_c2 : ∀ b : Fin 7, ∀ a : Fin 253, vf_n64 (FP.f2d (FP.fdiv (FP.i2f (nI a.1)) (FP.i2f (nI (14 + b.1 + 1))))) := by unfold vf_n64; decide +kernel
theorem fd2_c3 : ∀ b : Fin 7, ∀ a : Fin 253, vf_n64 (FP.f2d (FP.fdiv (FP.i2f (nI a.1)) (FP.i2f (nI (21 + b.1 + 1))))) := by unfold vf_n64; decide +kernel
theorem fd2_c4 : ∀ b : Fin 7, ∀ a : Fin 253, vf_n64 (FP.f2d (FP.fdiv (FP.i2f (nI a.1)) (FP.i2f (nI (28 + b.1 + 1))))) := by unfold vf_n64; decide +kernel
theorem fd2_c5 : ∀ b : Fin 7, ∀ a : Fin 253, vf_n64 (FP.f2d (FP.fdiv (FP.i2f (nI a.1)) (FP.i2f (nI (35 + b.1 + 1))))) := by unfold vf_n64; decide +kernel
theorem fd2_c6 : ∀ b : Fin 7, ∀ a : Fin 253, vf_n64 (FP.f2d (FP.fdiv (FP.i2f (nI a.1)) (FP.i2f (nI (42 + b.1 + 1))))) := by unfold vf_n64; decide +kernel
theorem fd2_c7 : ∀ b : Fin 7, ∀ a : Fin 253, vf_n64 (FP.f2d (FP.fdiv (FP.i2f (nI a.1)) (FP.i2f (nI (49 + b.1 + 1))))) := by unfold vf_n64; decide +kernel
theorem fd2_c8 : ∀ b : Fin 7, ∀ a : Fin 253, vf_n64 (FP.f2d (FP.fdiv (FP.i2f (nI a.1)) (FP.i2f (nI (56 + b.1 + 1))))) := by unfold vf_n64; decide +kernel
theorem fd2_all (b : Nat) (hb : b < 63) (a : Fin 253) : vf_n64 (FP.f2d (FP.fdiv (FP.i2f (nI a.1)) (FP.i2f (nI (b + 1))))) := by
  rcases (show b / 7 = 0 ∨ b / 7 = 1 ∨ b / 7 = 2 ∨ b / 7 = 3 ∨ b / 7 = 4 ∨ b / 7 = 5 ∨ b / 7 = 6 ∨ b / 7 = 7 ∨ b / 7 = 8 by omega) with e | e | e | e | e | e | e | e | e
  · have h := fd2_c0 ⟨b - 0, by omega⟩ a
    simp only at h
    rwa [show 0 + (b - 0) + 1 = b + 1 by omega] at h
  · have h := fd2_c1 ⟨b - 7, by omega⟩ a
    simp only at h
    rwa [show 7 + (b - 7) + 1 = b + 1 by omega] at h
  · have h := fd2_c2 ⟨b - 14, by omega⟩ a
    simp only at h
    rwa [show 14 + (b - 14) + 1 = b + 1 by omega] at h
  · have h := fd2_c3 ⟨b - 21, by omega⟩ a
    simp only at h
    rwa [show 21 + (b - 21) + 1 = b + 1 by omega] at h
  · have h := fd2_c4 ⟨b - 28, by omega⟩ a
    simp only at h
    rwa [show 28 + (b - 28) + 1 = b + 1 by omega] at h
  · have h := fd2_c5 ⟨b - 35, by omega⟩ a
    simp only at h
    rwa [show 35 + (b - 35) + 1 = b + 1 by omega] at h
  · have h := fd2_c6 ⟨b - 42, by omega⟩ a
    simp only at h
    rwa [show 42 + (b - 42) + 1 = b + 1 by omega] at h
  · have h := fd2_c7 ⟨b - 49, by omega⟩ a
    simp only at h
    rwa [show 49 + (b - 49) + 1 = b + 1 by omega] at h
  · have h := fd2_c8 ⟨b - 56, by omega⟩ a
    simp only at h
    rwa [show 56 + (b - 56) + 1 = b + 1 by omega] at h
theorem fd2_0 : vf_n64 (FP.f2d FP.fconst0) := by unfold vf_n64; decide +kernel
