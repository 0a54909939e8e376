/-! the coast's text as things: the grammar; a state: how many women, how many things, which of these are blue -/
abbrev Cs : Type := Nat × Nat × (Nat → Int32)
section Cgr
variable (c : Nat → Nat) (e : Nat)
def cN : Nat → Nat → Go
  | 0, q => .inr q
  | n + 1, q => gB (gNum c e (nI 99) q) (cN n)
def cReq (w hi : Int32) (q : Nat) : Go := if wv c e q = w then gNum c e hi (nx c e q) else .inl q
def cOpt (w hi : Int32) (q : Nat) : Go := if wv c e q = w then gNum c e hi (nx c e q) else .inr q
def cFlag (w : Int32) (q : Nat) : Nat := if wv c e q = w then nx c e q else q
def cWoman (q : Nat) : Go := gB (cN c e 4 q) (fun q1 => gB (cReq c e 17484389 (nI 999) q1) (fun q2 => gB (cOpt c e 23716 (nI 9) q2) (fun q3 => .inr (cFlag c e 24416759 q3))))
def cThing (w : Nat) (q : Nat) : Go := gB (cN c e 4 q) (fun q1 => gB (cReq c e 486 (nI w - nI 1) q1) (fun q2 => gB (cOpt c e 769614 (nI 99) q2) (fun q3 => cOpt c e 763528 (nI w - nI 1) q3)))
def cMap (r : Go) (f : Nat → Cs × Nat) : Nat ⊕ (Cs × Nat) := match r with
  | .inl x => .inl x
  | .inr q => .inr (f q)
def cLine (s : Cs) (q : Nat) : Nat ⊕ (Cs × Nat) :=
  if wv c e q = 24622126 then (if s.1 < 8 then cMap (cWoman c e (nx c e q)) (fun q1 => ((s.1 + 1, s.2.1, s.2.2), q1)) else .inl q)
  else if wv c e q = 21243335 then (if s.2.1 < 8 then cMap (cThing c e s.1 (nx c e q)) (fun q1 => ((s.1, s.2.1 + 1, upd s.2.2 s.2.1 (if wv c e q1 = 78501 then nI 1 else nI 0)), cFlag c e 78501 q1)) else .inl q)
  else if wv c e q = 17376357 then cMap (gNum c e (nI 50) (nx c e q)) (fun q1 => (s, q1))
  else if wv c e q = 409285 then cMap (gNum c e (nI 100) (nx c e q)) (fun q1 => (s, q1))
  else if wv c e q = 4153 then cMap (gNum c e (nI 999) (nx c e q)) (fun q1 => (s, q1))
  else .inl q
def cText : Nat → Nat → Cs → Nat → Nat ⊕ (Cs × Nat)
  | 0, _, _, q => .inl q
  | f + 1, n, s, q => match cLine c e s q with
    | .inl x => .inl x
    | .inr (s1, q1) => if e ≤ q1 then .inr (s1, n + 1) else if fs c e q1 = nI 59 then cText f (n + 1) s1 (nx c e q1) else .inl q1
def cCoast (s : Cs) : Nat ⊕ (Cs × Nat) := if e ≤ bl c e 0 then .inr (s, 0) else cText c e 14 0 s (bl c e 0)
end Cgr
theorem cMap_l {r : Go} {f : Nat → Cs × Nat} {x : Nat} (h : r = .inl x) : cMap r f = .inl x := by rw [h]; rfl
theorem cMap_r {r : Go} {f : Nat → Cs × Nat} {x : Nat} (h : r = .inr x) : cMap r f = .inr (f x) := by rw [h]; rfl
