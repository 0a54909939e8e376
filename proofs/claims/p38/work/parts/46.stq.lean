/-! ===== the checker: what one instruction does ===== -/
abbrev Nx : Type := List (Nat × Ast) × List Ed
def ilen : In → Nat
  | .bipush _ => 2
  | .sipush _ => 3
  | .ldc _ => 2
  | .ldc_w _ => 3
  | .iload _ => 2
  | .aload _ => 2
  | .istore _ => 2
  | .astore _ => 2
  | .iinc _ _ => 3
  | .goto _ => 3
  | .ifCond _ _ => 3
  | .if_icmp _ _ => 3
  | .ifnull _ => 3
  | .ifnonnull _ => 3
  | .getfield _ => 3
  | .putfield _ => 3
  | .invokevirtual _ => 3
  | .invokestatic _ => 3
  | .new _ => 3
  | _ => 1
def isSw : In → Bool
  | .tableswitch _ _ _ _ => true
  | .lookupswitch _ _ => true
  | _ => false
/-- a number of the pool: its amount, 1 if it is below 0 -/
def cnI (q : Nat × Nat) : Int := if q.2 = 0 then (q.1 : Int) else -(q.1 : Int)
/-- a method: its name and code, how many it takes (the object too), what it gives (0 nothing, 1 int, 2 boolean), how much it may throw -/
abbrev Mt : Type := Nat → Ym × Nat × Nat × Nat
/-- what is known of an instruction's links -/
def infO (mt : Mt) (Y : Ym) (pc : Nat) (i : In) (info : List (Nat × Nat)) : Prop :=
  match i with
  | .getfield idx => ∀ q ∈ info, zFd Y.1.cls idx q.1 q.2
  | .putfield idx => ∀ q ∈ info, if q.2 < 1000 then zFp Y.1.cls idx q.1 q.2 .int else zFp Y.1.cls idx q.1 (q.2 - 1000) .boolean
  | .invokevirtual idx => ∀ q ∈ info, ∃ C T N, vwCl[q.1]? = some (C, T, N) ∧ (zMv Y.1.cls idx C (mt q.2).1 ((mt q.2).2.1 - 1) ∨ ((mt q.2).2.2.2 = 0 ∧ (zMu Y.1.cls idx C (mt q.2).1 ((mt q.2).2.1 - 1) ∨ ∃ x, zMa Y.1.cls idx C x (mt q.2).1 ((mt q.2).2.1 - 1))))
  | .invokestatic idx => ∀ q ∈ info, if q.1 = 0 then zMs Y.1.cls idx (mt q.2).1 (mt q.2).2.1 else if q.1 = 1 then zMs Y.1.cls idx (Lib.Math.min.name, Lib.Math.min.code, 2, some .int) 2
    else if q.1 = 2 then zMs Y.1.cls idx (Lib.Math.max.name, Lib.Math.max.code, 2, some .int) 2 else if q.1 = 3 then zMs Y.1.cls idx (Lib.Math.abs.name, Lib.Math.abs.code, 1, some .int) 1 else zAc Y.1.cls idx
  | .ldc idx => ∀ q ∈ info, if q.2 = 2 then ∃ tx, (Y.1.cls, idx, tx, q.1) ∈ zSR else Cond.constant Y.1.cls idx (Int32.ofInt (cnI q)) ∈ WA
  | .ldc_w idx => ∀ q ∈ info, Cond.constant Y.1.cls idx (Int32.ofInt (cnI q)) ∈ WA
  | .new _ => ∀ q ∈ info, ∀ (G : Gx) (d b : Nat) (ls : List (Option Value)) (I : Hi) (Q : Rs → Hi → Prop), 1 ≤ b → Q (.inr (zCs.getD q.1 "")) I → Rn G GAM Y (kM G GAM Q) d b pc ls [] I
  | _ => True
def okI (mt : Mt) (Y : Ym) (pc : Nat) (i : In) (info : List (Nat × Nat)) : Prop :=
  (∃ len, decode Y.2.1 pc = .ok (i, len) ∧ (isSw i = true ∨ len = ilen i)) ∧ infO mt Y pc i info
def decB (c : ByteArray) (pc : Nat) (i : In) : Bool := match decode c pc with
  | .ok q => decide (q.1 = i) && (isSw i || Nat.beq q.2 (ilen i))
  | .error _ => false
theorem decB_ok {c : ByteArray} {pc : Nat} {i : In} (h : decB c pc i = true) : ∃ len, decode c pc = .ok (i, len) ∧ (isSw i = true ∨ len = ilen i) := by
  unfold decB at h
  split at h
  · rename_i q e
    simp only [Bool.and_eq_true, Bool.or_eq_true, decide_eq_true_eq] at h
    obtain ⟨h1, h2⟩ := h
    refine ⟨q.2, by rw [e, ← h1], h2.imp id (fun h3 => Nat.eq_of_beq_eq_true h3)⟩
  · cases h
def tgtO (pc : Nat) (off : Int) : Option Nat := if 0 ≤ (pc : Int) + off then some ((pc : Int) + off).toNat else none
theorem tgtO_ok {pc t : Nat} {off : Int} (h : tgtO pc off = some t) : (pc : Int) + off = (t : Int) := by
  unfold tgtO at h
  split at h
  · cases h; omega
  · cases h
def brN (g : Option (List Iv)) (pc : Nat) (L : List (Option SV)) (st : List SV) (kb : Kb) : List (Nat × Ast) :=
  match g with
  | none => []
  | some g' => [(pc, (g', L, st, kb))]
/-- it isn't 0: below, or above -/
def nzN (g : List Iv) (x : Af) (pc : Nat) (L : List (Option SV)) (st : List SV) (kb : Kb) : List (Nat × Ast) :=
  if (ivA g x).1 < 0 ∧ 0 < (ivA g x).2 then brN (refLe g x (0, 0, 0) 1) pc L st kb ++ brN (refLe g (0, 0, 0) x 1) pc L st kb else brN (refNe g x (0, 0, 0)) pc L st kb
def tN (g : List Iv) (x : Af) (pc : Nat) (L : List (Option SV)) (st : List SV) (kb : Kb) : Cc → List (Nat × Ast)
  | .ne => nzN g x pc L st kb
  | c => brN (refT g x (0, 0, 0) c) pc L st kb
def fN (g : List Iv) (x : Af) (pc : Nat) (L : List (Option SV)) (st : List SV) (kb : Kb) : Cc → List (Nat × Ast)
  | .eq => nzN g x pc L st kb
  | c => brN (refF g x (0, 0, 0) c) pc L st kb
/-- a value that is a known sum, or else a new one -/
def puN (n0 pc : Nat) (g : List Iv) (L : List (Option SV)) (st : List SV) (kb : Kb) (z : Option Af) (iv : Iv) : Option Nx :=
  match z with
  | some a => some ([(pc, (g, L, .inl a :: st, kb))], [])
  | none => if frO n0 g L st kb = true then some ([(pc, (g ++ [iv], L, .inl (g.length, 1, 0) :: st, kb))], []) else none
def orE (a b : Option Af) : Option Af := match a with
  | some x => some x
  | none => b
/-- the value of the place a of the cell c -/
def rdN (hx : Hx) (n0 pc : Nat) (g : List Iv) (L : List (Option SV)) (st : List SV) (kb : Kb) (c : Nat) (a : Af) : Option Nx :=
  if (ivA g a).1 = (ivA g a).2 then
    (match kbG kb c (ivA g a).1.toNat with
     | some v => some ([(pc, (g, L, .inl v :: st, kb))], [])
     | none => if frO n0 g L st kb = true then some ([(pc, (g ++ [hx.1 c (ivA g a).1.toNat], L, .inl (g.length, 1, 0) :: st, ((c, (ivA g a).1.toNat), (g.length, 1, 0)) :: kb))], []) else none)
  else if frO n0 g L st kb = true then
    some ([(pc, (g ++ [if hx.2.1 c = true then ivF else if okB (rawI g a) = true ∧ (ivV g a.1).2 - (ivV g a.1).1 ≤ 300 then (cand g a).foldl (fun i j => (min i.1 (hx.1 c j.toNat).1, max i.2 (hx.1 c j.toNat).2)) (2147483647, -2147483648) else ivF], L, .inl (g.length, 1, 0) :: st, kb))], [])
  else none
/-- places lo to hi, each by itself -/
def eaN (pc : Nat) (g : List Iv) (L : List (Option SV)) (st : List SV) (kb : Kb) (a : Af) : Nat → List (Nat × Ast)
  | 0 => []
  | k + 1 => brN (refEq g a (0, 0, (k : Int))) pc L (.inr (some (46 + 4 * k)) :: st) kb ++ eaN pc g L st kb a k
def swN (pc : Nat) (g : List Iv) (L : List (Option SV)) (st : List SV) (kb : Kb) (a : Af) (lo : Int) : List Int → Option (List (Nat × Ast))
  | [] => some []
  | off :: r => match tgtO pc off, swN pc g L st kb a (lo + 1) r with
    | some t, some q => some (brN (refEq g a (0, 0, lo)) t L st kb ++ q)
    | _, _ => none
def lkN (pc : Nat) (g : List Iv) (L : List (Option SV)) (st : List SV) (kb : Kb) (a : Af) : List (Int × Int) → Option (List (Nat × Ast))
  | [] => some []
  | p :: r => match tgtO pc p.2, lkN pc g L st kb a r with
    | some t, some q => some (brN (refEq g a (0, 0, p.1)) t L st kb ++ q)
    | _, _ => none
/-- the local k is each of 0 .. n - 1, each by itself -/
def fkN (pc : Nat) (g : List Iv) (L : List (Option SV)) (st : List SV) (kb : Kb) (k : Nat) (a : Af) : Nat → List (Nat × Ast)
  | 0 => []
  | n + 1 => brN (refEq g a (0, 0, (n : Int))) pc (L.set k (some (.inl (0, 0, (n : Int))))) (.inl (0, 0, (n : Int)) :: st) kb ++ fkN pc g L st kb k a n
def ushr32 (x y : Int32) : Int32 := (x.toUInt32 >>> (y.toUInt32 &&& Int32.toUInt32 31)).toInt32
def st2 (f : Af → Af → List SV → Option Nx) : List SV → Option Nx
  | .inl y :: .inl x :: st => f x y st
  | _ => none
def st1 (f : Af → List SV → Option Nx) : List SV → Option Nx
  | .inl x :: st => f x st
  | _ => none
/-- System.arraycopy of the first n ints, to a trivial cell -/
def acN (hx : Hx) (pc : Nat) (g : List Iv) (L : List (Option SV)) (kb : Kb) : List SV → Option Nx
  | .inl n :: .inl z1 :: .inr (some a) :: .inl z2 :: .inr (some a0) :: st => match GAM[a]?, GAM[a0]? with
    | some (.inr (.int, n1, _)), some (.inr (.int, n2, _)) => if (n.2.1 = 0 ∧ z1.2.1 = 0 ∧ z1.2.2 = 0 ∧ z2.2.1 = 0 ∧ z2.2.2 = 0) ∧ st.length ≤ 8 ∧ (0 ≤ n.2.2 ∧ n.2.2 ≤ (n2 : Int) ∧ n.2.2 ≤ (n1 : Int) ∧ n.2.2 < 100000) ∧ hx.2.1 a = true ∧ covS hx.2.2.2 a 0 n.2.2 = true then some ([(pc, (g, L, st, kb.filter (fun e => !decide (e.1.1 = a))))], []) else none
    | _, _ => none
  | _ => none
def stp (hx : Hx) (n0 mxl ret bud pc : Nat) (i : In) (info : List (Nat × Nat)) (g : List Iv) (L : List (Option SV)) (st : List SV) (kb : Kb) : Option Nx :=
  match i with
  | .iconst n => some ([(pc + 1, (g, L, .inl (0, 0, n) :: st, kb))], [])
  | .bipush n => if -128 ≤ n ∧ n ≤ 127 then some ([(pc + 2, (g, L, .inl (0, 0, n) :: st, kb))], []) else none
  | .sipush n => if -32768 ≤ n ∧ n ≤ 32767 then some ([(pc + 3, (g, L, .inl (0, 0, n) :: st, kb))], []) else none
  | .ldc _ => match info with
    | [q] => if q.2 = 2 then some ([(pc + 2, (g, L, .inr (some q.1) :: st, kb))], []) else some ([(pc + 2, (g, L, .inl (0, 0, cnI q) :: st, kb))], [])
    | _ => none
  | .ldc_w _ => match info with
    | [q] => some ([(pc + 3, (g, L, .inl (0, 0, cnI q) :: st, kb))], [])
    | _ => none
  | .aconst_null => some ([(pc + 1, (g, L, .inr none :: st, kb))], [])
  | .iload k => match L[k]? with
    | some (some (.inl a)) => match info with
      | [] => some ([(pc + 2, (g, L, .inl a :: st, kb))], [])
      | q :: _ => if 0 ≤ (ivA g a).1 ∧ (ivA g a).2 < (q.1 : Int) then some (fkN (pc + 2) g L st kb k a q.1, []) else none
    | _ => none
  | .iload_n k => match L[(k : Nat)]? with
    | some (some (.inl a)) => match info with
      | [] => some ([(pc + 1, (g, L, .inl a :: st, kb))], [])
      | q :: _ => if 0 ≤ (ivA g a).1 ∧ (ivA g a).2 < (q.1 : Int) then some (fkN (pc + 1) g L st kb (k : Nat) a q.1, []) else none
    | _ => none
  | .aload k => match L[k]? with
    | some (some (.inr (some a))) => some ([(pc + 2, (g, L, .inr (some a) :: st, kb))], [])
    | _ => none
  | .aload_n k => match L[(k : Nat)]? with
    | some (some (.inr a)) => some ([(pc + 1, (g, L, .inr a :: st, kb))], [])
    | _ => none
  | .istore k => st1 (fun a st => if k < mxl then some ([(pc + 2, (g, L.set k (some (.inl a)), st, kb))], []) else none) st
  | .istore_n k => st1 (fun a st => if (k : Nat) < mxl then some ([(pc + 1, (g, L.set k (some (.inl a)), st, kb))], []) else none) st
  | .astore k => match st with
    | .inr a :: st => if k < mxl then some ([(pc + 2, (g, L.set k (some (.inr a)), st, kb))], []) else none
    | _ => none
  | .astore_n k => match st with
    | .inr a :: st => if (k : Nat) < mxl then some ([(pc + 1, (g, L.set k (some (.inr a)), st, kb))], []) else none
    | _ => none
  | .iinc k n => match L[k]? with
    | some (some (.inl a)) => if k < mxl then some ([(pc + 3, (g, L.set k (some (.inl (a.1, a.2.1, a.2.2 + n))), st, kb))], []) else none
    | _ => none
  | .iadd => st2 (fun x y st => puN n0 (pc + 1) g L st kb (afAdd x y) (ivAdd (ivA g x) (ivA g y))) st
  | .isub => st2 (fun x y st => puN n0 (pc + 1) g L st kb (afAdd x (afNeg y)) (ivSub (ivA g x) (ivA g y))) st
  | .imul => st2 (fun x y st => puN n0 (pc + 1) g L st kb (afMul x y) (ivMul (ivA g x) (ivA g y))) st
  | .ineg => st1 (fun x st => some ([(pc + 1, (g, L, .inl (afNeg x) :: st, kb))], [])) st
  | .iand => st2 (fun x y st => puN n0 (pc + 1) g L st kb (cst2 (fun a b => a &&& b) x y) (ivAnd (ivA g x) (ivA g y))) st
  | .ior => st2 (fun x y st => puN n0 (pc + 1) g L st kb (cst2 (fun a b => a ||| b) x y) (ivOr (ivA g x) (ivA g y))) st
  | .ixor => st2 (fun x y st => puN n0 (pc + 1) g L st kb (cst2 (fun a b => a ^^^ b) x y) ivF) st
  | .ishl => st2 (fun x y st => puN n0 (pc + 1) g L st kb (orE (cst2 (fun a b => a <<< (b &&& 31)) x y) (afShl x y)) (ivShl (ivA g x) (ivA g y))) st
  | .ishr => st2 (fun x y st => puN n0 (pc + 1) g L st kb (cst2 (fun a b => a >>> (b &&& 31)) x y) ivF) st
  | .iushr => st2 (fun x y st => puN n0 (pc + 1) g L st kb (cst2 ushr32 x y) ivF) st
  | .idiv => st2 (fun x y st => if nzI (ivA g y) = true then puN n0 (pc + 1) g L st kb (cst2 (fun a b => a / b) x y) (ivDiv (ivA g x) (ivA g y)) else none) st
  | .irem => st2 (fun x y st => if nzI (ivA g y) = true then puN n0 (pc + 1) g L st kb (cst2 (fun a b => a - a / b * b) x y) (ivRem (ivA g x) (ivA g y)) else none) st
  | .i2b => st1 (fun _ st => puN n0 (pc + 1) g L st kb none (-128, 127)) st
  | .dup => match st with
    | v :: st => some ([(pc + 1, (g, L, v :: v :: st, kb))], [])
    | _ => none
  | .dup2 => match st with
    | v :: w :: st => some ([(pc + 1, (g, L, v :: w :: v :: w :: st, kb))], [])
    | _ => none
  | .pop => match st with
    | _ :: st => some ([(pc + 1, (g, L, st, kb))], [])
    | _ => none
  | .goto off => match tgtO pc off with
    | some t => some ([(t, (g, L, st, kb))], [])
    | none => none
  | .ifCond c off => st1 (fun x st => match tgtO pc off with
    | some t => some (tN g x t L st kb c ++ fN g x (pc + 3) L st kb c, [])
    | none => none) st
  | .if_icmp c off => st2 (fun x y st => match tgtO pc off with
    | some t => some (brN (refT g x y c) t L st kb ++ brN (refF g x y c) (pc + 3) L st kb, [])
    | none => none) st
  | .ifnull off => match st with
    | .inr (some _) :: st => some ([(pc + 3, (g, L, st, kb))], [])
    | .inr none :: st => match tgtO pc off with
      | some t => some ([(t, (g, L, st, kb))], [])
      | none => none
    | _ => none
  | .ifnonnull off => match st with
    | .inr (some _) :: st => match tgtO pc off with
      | some t => some ([(t, (g, L, st, kb))], [])
      | none => none
    | .inr none :: st => some ([(pc + 3, (g, L, st, kb))], [])
    | _ => none
  | .tableswitch df lo hi offs => st1 (fun x st => if (offs.size : Int) = hi - lo + 1 ∧ -2147483648 ≤ lo ∧ hi ≤ 2147483647 ∧ lo ≤ hi then (match tgtO pc df, swN pc g L st kb x lo offs.toList with
    | some t, some q => some (q ++ (brN (refLe g x (0, 0, lo) 1) t L st kb ++ brN (refLe g (0, 0, hi) x 1) t L st kb), [])
    | _, _ => none) else none) st
  | .lookupswitch df ps => st1 (fun x st => if (ps.toList.zip (ps.toList.drop 1)).all (fun (a, next) => a.1 < next.1) = true then (match tgtO pc df, lkN pc g L st kb x ps.toList with
    | some t, some q => some (q ++ [(t, (g, L, st, kb))], [])
    | _, _ => none) else none) st
  | .getfield _ => match st with
    | .inr (some a) :: st => match GAM[a]? with
      | some (.inl q) => match info.find? (fun z => decide (z.1 = q.1)) with
        | some z => match q.2[z.2]? with
          | some none => if z.2 < 1000 then rdN hx n0 (pc + 3) g L st kb a (0, 0, (z.2 : Int)) else none
          | some (some (some w)) => some ([(pc + 3, (g, L, .inr (some w) :: st, kb))], [])
          | _ => none
        | none => none
      | _ => none
    | _ => none
  | .putfield _ => match st with
    | .inl v :: .inr (some a) :: st => match GAM[a]? with
      | some (.inl q) => match info.find? (fun z => decide (z.1 = q.1)) with
        | some z => if z.2 < 1000 then
            (match q.2[z.2]? with
             | some none => if wrO hx g a (0, 0, (z.2 : Int)) (ivA g v) = true then some ([(pc + 3, (g, L, st, kbW g kb a (0, 0, (z.2 : Int)) v))], []) else none
             | _ => none)
          else
            (match q.2[z.2 - 1000]? with
             | some none => if z.2 < 2000 ∧ wrO hx g a (0, 0, ((z.2 - 1000 : Nat) : Int)) (ivA g v) = true ∧ subI (ivA g v) (0, 1) = true then some ([(pc + 3, (g, L, st, kbW g kb a (0, 0, ((z.2 - 1000 : Nat) : Int)) v))], []) else none
             | _ => none)
        | none => none
      | _ => none
    | _ => none
  | .iaload => match st with
    | .inl j :: .inr (some a) :: st => match GAM[a]? with
      | some (.inr (.int, n, _)) => if 0 ≤ (ivA g j).1 ∧ (ivA g j).2 < (n : Int) then rdN hx n0 (pc + 1) g L st kb a j else none
      | _ => none
    | _ => none
  | .baload => match st with
    | .inl j :: .inr (some a) :: st => match GAM[a]? with
      | some (.inr (.byte, n, _)) => if 0 ≤ (ivA g j).1 ∧ (ivA g j).2 < (n : Int) then rdN hx n0 (pc + 1) g L st kb a j else none
      | _ => none
    | _ => none
  | .iastore => match st with
    | .inl v :: .inl j :: .inr (some a) :: st => match GAM[a]? with
      | some (.inr (.int, n, _)) => if (0 ≤ (ivA g j).1 ∧ (ivA g j).2 < (n : Int)) ∧ wrO hx g a j (ivA g v) = true then some ([(pc + 1, (g, L, st, kbW g kb a j v))], []) else none
      | _ => none
    | _ => none
  | .bastore => match st with
    | .inl _ :: .inl j :: .inr (some a) :: st => match GAM[a]? with
      | some (.inr (.byte, n, _)) => if (0 ≤ (ivA g j).1 ∧ (ivA g j).2 < (n : Int)) ∧ wrO hx g a j ivF = true then some ([(pc + 1, (g, L, st, kb.filter (fun e => !decide (e.1.1 = a))))], []) else none
      | _ => none
    | _ => none
  | .aaload => match st with
    | .inl j :: .inr (some a) :: st => if a = 45 ∧ 0 ≤ (ivA g j).1 ∧ (ivA g j).2 < 12 then some (eaN (pc + 1) g L st kb j 12, []) else none
    | _ => none
  | .invokestatic _ => match info with
    | [q] => if q.1 = 1 then st2 (fun x y st => if st.length ≤ 8 then puN n0 (pc + 3) g L st kb (cst2 imin x y) (ivMin (ivA g x) (ivA g y)) else none) st
      else if q.1 = 2 then st2 (fun x y st => if st.length ≤ 8 then puN n0 (pc + 3) g L st kb (cst2 imax x y) (ivMax (ivA g x) (ivA g y)) else none) st
      else if q.1 = 3 then st1 (fun x st => if st.length ≤ 8 then puN n0 (pc + 3) g L st kb none (ivAbs (ivA g x)) else none) st
      else if q.1 = 4 then acN hx (pc + 3) g L kb st else none
    | _ => none
  | .new _ => match info, st with
    | [q], [] => if 1 ≤ bud then some ([], [(g, .inr q.1, kb)]) else none
    | _, _ => none
  | .ireturn => match st with
    | [.inl a] => if ret = 1 ∨ (ret = 2 ∧ subI (ivA g a) (0, 1) = true) then some ([], [(g, .inl (some a), kb)]) else none
    | _ => none
  | .return_ => match st with
    | [] => if ret = 0 then some ([], [(g, .inl none, kb)]) else none
    | _ => none
  | _ => none
