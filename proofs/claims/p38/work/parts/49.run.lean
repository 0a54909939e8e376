/-! ===== the checker: a method ===== -/
abbrev Co : Type := List (Nat × In × List (Nat × Nat))
/-- a place at which ways meet: what stands in the locals, what is known of the heap, how far it is to the end, how much may be thrown -/
abbrev Sp : Type := List (Option (Iv ⊕ Option Nat))
abbrev Fa : Type := List ((Nat × Nat) × Iv)
abbrev Ms : Type := (Nat × Nat) × (Nat × Nat) × (Nat × Nat)
abbrev Cu : Type := Nat × Sp × Fa × Ms × Nat
/-- a contract: the method, how deep, how much it may throw, what it takes, what must be known; what may change; its outcomes -/
abbrev Ctr : Type := Nat × Nat × Nat × List (Iv ⊕ Option Nat) × Fa × List (Nat × Nat × Nat) × List ((Option Iv ⊕ Nat) × Fa)
def spG (sp : Sp) (fa : Fa) : List Iv := sp.map (fun o => match o with
  | some (.inl iv) => iv
  | _ => ivF) ++ fa.map (fun e => e.2)
def spL : Nat → Sp → List (Option SV)
  | _, [] => []
  | k, none :: t => none :: spL (k + 1) t
  | k, some (.inl _) :: t => some (.inl (k, 1, 0)) :: spL (k + 1) t
  | k, some (.inr q) :: t => some (.inr q) :: spL (k + 1) t
def faK : Nat → Fa → Kb
  | _, [] => []
  | k, e :: t => (e.1, (k, 1, 0)) :: faK (k + 1) t
def msV (r : Nat → Int32) (q : Nat × Nat) : Nat := if q.1 = 0 then (2147483647 - (r q.2).toInt).toNat else if q.1 = 1 then ((r q.2).toInt + 2147483648).toNat else q.2
def mu3 (r : Nat → Int32) (m : Ms) : Nat := (msV r m.1 * 17179869184 + msV r m.2.1) * 17179869184 + msV r m.2.2
/-- 2: a measure has become less, 1: it is the same; m0 of the variables at the begin, m1 of the locals now -/
def cmM (g : List Iv) (L : List (Option SV)) (m0 m1 : Nat × Nat) : Nat :=
  if m1.1 = 2 then (if m0.1 = 2 then (if m1.2 < m0.2 then 2 else if m1.2 = m0.2 then 1 else 0) else 0)
  else match L[m1.2]? with
    | some (some (.inl a)) =>
      if m0.1 = 2 then (if (m1.1 = 0 ∨ m1.1 = 1) ∧ 4294967296 ≤ m0.2 then 2 else 0)
      else if m0.1 = 0 ∧ m1.1 = 0 then
        (if a = (m0.2, 1, 0) then 1 else if (a.1 = m0.2 ∧ a.2.1 = 1 ∧ 0 < a.2.2 ∧ okB (rawI g a) = true) ∨ (ivV g m0.2).2 < (ivA g a).1 then 2 else 0)
      else if m0.1 = 1 ∧ m1.1 = 1 then
        (if a = (m0.2, 1, 0) then 1 else if (a.1 = m0.2 ∧ a.2.1 = 1 ∧ a.2.2 < 0 ∧ okB (rawI g a) = true) ∨ (ivA g a).2 < (ivV g m0.2).1 then 2 else 0)
      else 0
    | _ => 0
def lxM (g : List Iv) (L : List (Option SV)) (m0 m1 : Ms) : Bool :=
  decide (cmM g L m0.1 m1.1 = 2) || (decide (cmM g L m0.1 m1.1 = 1) && (decide (cmM g L m0.2.1 m1.2.1 = 2) || (decide (cmM g L m0.2.1 m1.2.1 = 1) && decide (cmM g L m0.2.2 m1.2.2 = 2))))
def szQ (q : Nat × Nat) : Bool := decide (q.1 = 0 ∨ q.1 = 1 ∨ q.2 < 17179869184)
def szM (m : Ms) : Bool := szQ m.1 && (szQ m.2.1 && szQ m.2.2)
def arL (g : List Iv) : List (Option SV) → Sp → Bool
  | _, [] => true
  | [], _ :: _ => false
  | _ :: L, none :: t => arL g L t
  | some (.inl a) :: L, some (.inl iv) :: t => subI (ivA g a) iv && arL g L t
  | some (.inr q) :: L, some (.inr q') :: t => decide (q = q') && arL g L t
  | _, _ => false
def arF (hx : Hx) (g : List Iv) (kb : Kb) (fa : Fa) : Bool := fa.all (fun e => match kbG kb e.1.1 e.1.2 with
  | some a => subI (ivA g a) e.2
  | none => subI (hx.1 e.1.1 e.1.2) e.2)
def mxO (n : Nat) (m : Ms) : Bool := decide ((m.1.1 ≠ 2 → m.1.2 < n) ∧ (m.2.1.1 ≠ 2 → m.2.1.2 < n) ∧ (m.2.2.1 ≠ 2 → m.2.2.2 < n))
def arr (hx : Hx) (bud : Nat) (m0 : Ms) (c : Cu) (s : Ast) : Bool :=
  Nat.ble c.2.2.2.2 bud && (s.2.2.1.isEmpty && (arL s.1 s.2.1 c.2.1 && (arF hx s.1 s.2.2.2 c.2.2.1 && (lxM s.1 s.2.1 m0 c.2.2.2.1 && (szM c.2.2.2.1 && mxO c.2.1.length c.2.2.2.1)))))
def seek (pc : Nat) : Co → Co
  | [] => []
  | e :: t => if e.1 = pc then e :: t else seek pc t
def entO (cs co : Co) (pc : Nat) : Co := match cs with
  | e :: t => if e.1 = pc then e :: t else seek pc co
  | [] => seek pc co
def argO (g : List Iv) : List SV → List (Iv ⊕ Option Nat) → Bool
  | [], [] => true
  | .inl a :: t, .inl iv :: u => subI (ivA g a) iv && argO g t u
  | .inr q :: t, .inr q' :: u => decide (q = q') && argO g t u
  | _, _ => false
def subS (S T : List (Nat × Nat × Nat)) : Bool := S.all (fun q => covS T q.1 (q.2.1 : Int) (q.2.2 : Int))
def inlB {α β : Type} : α ⊕ β → Bool
  | .inl _ => true
  | .inr _ => false
def useO (hx : Hx) (dd mi mb bud : Nat) (g : List Iv) (kb : Kb) (vs : List SV) (c : Ctr) : Bool :=
  decide (c.1 = mi) && (Nat.ble c.2.1 dd && (decide (c.2.2.1 = mb) && (Nat.ble c.2.2.1 bud && (argO g vs c.2.2.2.1 && (arF hx g kb c.2.2.2.2.1 && (subS c.2.2.2.2.2.1 hx.2.2.2 && (Nat.ble 1 c.2.2.1 || c.2.2.2.2.2.2.all (fun p => inlB p.1))))))))
def killS (S : List (Nat × Nat × Nat)) (kb : Kb) : Kb := kb.filter (fun e => Nat.blt e.1.2 5000 && !S.any (fun q => decide (q.1 = e.1.1) && (Nat.ble q.2.1 e.1.2 && Nat.ble e.1.2 q.2.2)))
abbrev Tr : Type := Nat → Nat → Nat → Nat → List Cu → Ms → Nat → Co → Ast → Option (List Ed)
/-- all of them -/
def allO {α : Type} (f : α → Option (List Ed)) : List α → Option (List Ed)
  | [] => some []
  | a :: t => match f a, allO f t with
    | some x, some y => some (x ++ y)
    | _, _ => none
def goN (hx : Hx) (ih : Tr) (dd mi bud n0 : Nat) (cuts : List Cu) (m0 : Ms) (cs : Co) (q : Nat × Ast) : Option (List Ed) :=
  match cuts.find? (fun c => decide (c.1 = q.1) && arr hx bud m0 c q.2) with
  | some _ => some []
  | none => if cuts.any (fun c => decide (c.1 = q.1)) = true then none else ih dd mi bud n0 cuts m0 q.1 cs q.2
/-- a state behind a contract's outcome -/
def posN (g : List Iv) (L : List (Option SV)) (rest : List SV) (kb : Kb) (pc : Nat) (S : List (Nat × Nat × Nat)) (p : (Option Iv ⊕ Nat) × Fa) : (Nat × Ast) ⊕ Ed :=
  match p.1 with
  | .inl none => .inl (pc, (g ++ p.2.map (fun e => e.2), L, rest, faK g.length p.2 ++ killS S kb))
  | .inl (some iv) => .inl (pc, (g ++ iv :: p.2.map (fun e => e.2), L, .inl (g.length, 1, 0) :: rest, faK (g.length + 1) p.2 ++ killS S kb))
  | .inr E => .inr (g ++ p.2.map (fun e => e.2), .inr E, faK g.length p.2 ++ killS S kb)
def eitN (f : Nat × Ast → Option (List Ed)) : (Nat × Ast) ⊕ Ed → Option (List Ed)
  | .inl q => f q
  | .inr e => some [e]
/-- behind the end of a method that was walked through -/
def endN (L : List (Option SV)) (rest : List SV) (pc : Nat) (e : Ed) : (Nat × Ast) ⊕ Ed :=
  match e.2.1 with
  | .inl none => .inl (pc, (e.1, L, rest, e.2.2))
  | .inl (some a) => .inl (pc, (e.1, L, .inl a :: rest, e.2.2))
  | .inr E => .inr e
/-- who is called: the method, what it takes, what is left -/
def calO (mt : Mt) (i : In) (info : List (Nat × Nat)) (st : List SV) : Option (Nat × List SV × List SV) :=
  match i with
  | .invokestatic _ => match info with
    | [q] => if q.1 = 0 ∧ (mt q.2).2.1 ≤ st.length then some (q.2, (st.take (mt q.2).2.1).reverse, st.drop (mt q.2).2.1) else none
    | _ => none
  | .invokevirtual _ => match info with
    | q :: _ => match st.drop ((mt q.2).2.1 - 1) with
      | .inr (some a) :: rest => match GAM[a]? with
        | some (.inl o) => match info.find? (fun z => decide (z.1 = o.1)) with
          | some z => if (mt z.2).2.1 = (mt q.2).2.1 ∧ 1 ≤ (mt q.2).2.1 then some (z.2, .inr (some a) :: (st.take ((mt q.2).2.1 - 1)).reverse, rest) else none
          | none => none
        | _ => none
      | _ => none
    | _ => none
  | _ => none
def runF (hx : Hx) (mt : Mt) (mc : Nat → Co) (cts : List Ctr) (ih : Tr) : Tr := fun dd mi bud n0 cuts m0 pc cs s =>
  match entO cs (mc mi) pc with
  | [] => none
  | e :: cs' => match calO mt e.2.1 e.2.2 s.2.2.1 with
    | some (mi', vs, rest) => match dd with
      | 0 => none
      | dd' + 1 => if rest.length ≤ 8 ∧ frO n0 s.1 s.2.1 rest s.2.2.2 = true then
          (match cts.find? (useO hx dd' mi' (mt mi').2.2.2 bud s.1 s.2.2.2 vs) with
           | some c => allO (eitN (goN hx ih dd mi (bud - c.2.2.1) n0 cuts m0 cs')) (c.2.2.2.2.2.2.map (posN s.1 s.2.1 rest s.2.2.2 (pc + 3) c.2.2.2.2.2.1))
           | none => if (mt mi').2.2.2 ≤ bud ∧ vs.length = (mt mi').2.1 ∧ vs.length ≤ (mt mi').1.2.2.1 ∧ (mc mi').isEmpty = false then
               (match ih dd' mi' (mt mi').2.2.2 s.1.length [] ((2, 0), (2, 0), (2, 0)) 0 (mc mi') (s.1, vs.map some ++ List.replicate ((mt mi').1.2.2.1 - vs.length) none, [], s.2.2.2) with
                | some es => if (Nat.ble 1 (mt mi').2.2.2 || es.all (fun e => inlB e.2.1)) = true then allO (eitN (goN hx ih dd mi (bud - (mt mi').2.2.2) n0 cuts m0 cs')) (es.map (endN s.2.1 rest (pc + 3))) else none
                | none => none)
             else none)
        else none
    | none => match stp hx n0 (mt mi).1.2.2.1 (mt mi).2.2.1 bud pc e.2.1 e.2.2 s.1 s.2.1 s.2.2.1 s.2.2.2 with
      | some (ss, es) => match allO (goN hx ih dd mi bud n0 cuts m0 cs') ss with
        | some x => some (x ++ es)
        | none => none
      | none => none
noncomputable def run (hx : Hx) (mt : Mt) (mc : Nat → Co) (cts : List Ctr) (n : Nat) : Tr := Nat.rec (fun _ _ _ _ _ _ _ _ _ => none) (fun _ ih => runF hx mt mc cts ih) n
