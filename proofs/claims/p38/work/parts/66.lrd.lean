def popN (c : Nat) : Nat := ((List.range 8).filter (fun k => c.testBit k)).length
def facN : Nat → Nat
  | 0 => 1
  | n + 1 => (n + 1) * facN n
def ct_lr (c : Nat) : Ctr := (209, 3, 0, [.inr (some 94), .inl ((c : Int), (c : Int)), .inl (0, (facN (popN c) : Int) - 1)], [], [(104, 0, 4)], [(.inl none, [])])
