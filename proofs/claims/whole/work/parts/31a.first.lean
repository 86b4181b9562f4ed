/-! the first state of both -/
def mem0 : Mem := fun i => if i = 7 then va_cpy atF (fun _ => 0) 0 0 7 else if i = 14 then va_cpy atF (fun _ => 0) 0 0 7 else if i = 21 then va_cpy atF (fun _ => 0) 0 0 7 else if i = 28 then va_cpy atF (fun _ => 0) 0 0 7 else if i = 35 then va_cpy atF (fun _ => 0) 0 0 7 else if i = 42 then va_cpy atF (fun _ => 0) 0 0 7 else if i = 49 then va_cpy atF (fun _ => 0) 0 0 7 else if i = 71 then upd (upd (upd (fun _ => 0) 2 6) 3 2) 8 4 else fun _ => 0
theorem mem0_set : ∀ k, k < 7 → (¬ mem0 7 k < lowF k ∧ ¬ higF k < mem0 7 k) ∧ mem0 7 k = mem0 71 (2 + k) := by decide +kernel
theorem SIM_0 : SIM mem0 := by
  have hV : Val (cv mem0 1) := by
    refine ⟨⟨by decide +kernel, by decide +kernel⟩, ⟨by decide +kernel, by decide +kernel⟩, fun l hl => ?_, fun p hp => ?_, fun k hk => ?_⟩
    · have e : nl (cv mem0 1) = 0 := by decide +kernel
      omega
    · have e : np (cv mem0 1) = 0 := by decide +kernel
      omega
    · exact (mem0_set k hk).1
  refine ⟨⟨⟨hV, fun l hl => ?_⟩, ⟨⟨by decide +kernel, by decide +kernel⟩, by decide +kernel, by decide +kernel⟩, Or.inl (by decide +kernel), ⟨⟨0, by decide +kernel, by decide⟩, 0, 0, by decide +kernel, by decide +kernel, by decide, by decide⟩, ⟨0, 0, by decide +kernel, by decide, by decide +kernel, by decide, fun j hj => absurd hj (Nat.not_lt_zero j)⟩⟩, ⟨by decide +kernel, by decide +kernel, fun l hl => ?_, fun p hp => ?_, fun k hk => ?_⟩, ⟨by decide +kernel, by decide +kernel, by decide +kernel⟩, ⟨by decide +kernel, fun k hk => ?_⟩, by decide +kernel, fun j hj => ?_⟩
  · have e : nl (cv mem0 1) = 0 := by decide +kernel
    omega
  · have e : nl (cv mem0 1) = 0 := by decide +kernel
    omega
  · have e : np (cv mem0 1) = 0 := by decide +kernel
    omega
  · exact (mem0_set k hk).2
  · have e : tn mem0 = 0 := by decide +kernel
    omega
  · have e : hd mem0 = 0 := by decide +kernel
    omega
