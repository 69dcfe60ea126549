/-! THE REFERENCE'S CONSTRUCTOR, run by the kernel -/
def mm_Rx : Nat → Nat → Option Nat := fun k j => if k < 108 then mm_R k j else none
def mm_cx2 : Option (Option Value × mm_M) := mm_exe mm_cs0 600 6 126 [.ref 108] (mm_nw (mm_sh.take 108, mm_Rx, mm_I0, mm_L0) (9, 0))
set_option maxRecDepth 100000 in
theorem mm_cx2_ok : (match mm_cx2 with | some (none, M) => mm_ag M 138 | _ => false) = true := by decide +kernel
