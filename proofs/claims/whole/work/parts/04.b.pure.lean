section GPURE
/-- a truth value as the machine has it -/
def bi (p : Prop) [Decidable p] : Int32 := if p then nI 1 else nI 0
theorem bi_t {p : Prop} [Decidable p] (h : p) : bi p = nI 1 := if_pos h
theorem bi_f {p : Prop} [Decidable p] (h : ¬ p) : bi p = nI 0 := if_neg h
theorem bi_nar {p : Prop} [Decidable p] : narrow .boolean (.int (bi p)) = .int (bi p) := by
  by_cases h : p
  · rw [bi_t h]; decide +kernel
  · rw [bi_f h]; decide +kernel
def iabs (v : Int32) : Int32 := if v < 0 then -v else v
end GPURE
