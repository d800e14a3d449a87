theorem x_if01 (c : Prop) [Decidable c] : (if c then (0 : Int32) else 1) = x_bi (¬ c) := by
  unfold x_bi
  by_cases h : c
  · rw [if_pos h, if_neg (fun z => z h)]
  · rw [if_neg h, if_pos h]
