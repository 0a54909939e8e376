/-! the checker by pieces: the start's run, and the cuts by groups, each by itself -/
noncomputable def chkU (hx : Hx) (mt : Mt) (mc : Nat → Co) (cts : List Ctr) (n : Nat) (c : Ctr) (cuts : List Cu) (u : Cu) : Bool :=
  mxO u.2.1.length u.2.2.2.1 &&
    allE hx c.2.2.2.2.2.2 (run hx mt mc cts n c.2.1 c.1 u.2.2.2.2 (spG u.2.1 u.2.2.1).length cuts u.2.2.2.1 u.1 (mc c.1) (spG u.2.1 u.2.2.1, spL 0 u.2.1, [], faK u.2.1.length u.2.2.1))
def grpOK (G : Gx) (hx : Hx) (X : Hi → Prop) (mt : Mt) (mc : Nat → Co) (c : Ctr) (g : List Cu) : Prop := ∃ (cts : List Ctr) (n : Nat), (∀ c ∈ cts, CtOK G hx X mt c) ∧ g.all (chkU hx mt mc cts n c g) = true
theorem cut_ok3 {G : Gx} {hx : Hx} {X : Hi → Prop} {mt : Mt} {mc : Nat → Co} (c : Ctr) (css : List (List Cu)) (hO : hxOK hx X) (hmc : okMc mt mc) (hg : ∀ g ∈ css, grpOK G hx X mt mc c g) (k : Nat) (I : Hi) :
    ∀ N, ∀ u ∈ css.flatten, cutH9 G (mt c.1).1 (fun o J => (∀ c j, inIv (hx.1 c j) (J c j)) ∧ X J ∧ Fs hx.2.2.2 I J ∧ ∃ p ∈ c.2.2.2.2.2.2, resM o p.1 ∧ faM J p.2) (c.2.1 + k) (HPof hx X I) N u := by
  obtain ⟨mi, dd, bud, as, fa, S, ps⟩ := c
  show ∀ N, ∀ u ∈ css.flatten, cutH9 G (mt mi).1 (fun o J => (∀ c j, inIv (hx.1 c j) (J c j)) ∧ X J ∧ Fs hx.2.2.2 I J ∧ ∃ p ∈ ps, resM o p.1 ∧ faM J p.2) (dd + k) (HPof hx X I) N u
  have hend : ∀ (n0 : Nat) (r0 : Nat → Int32) (es : List Ed), es.all (endO hx ps) = true → ∀ e ∈ es, Ge (fun o J => (∀ c j, inIv (hx.1 c j) (J c j)) ∧ X J ∧ Fs hx.2.2.2 I J ∧ ∃ p ∈ ps, resM o p.1 ∧ faM J p.2) n0 r0 (HPof hx X I) e := by
    intro n0 r0 es hes e he r J _ hSa hP hK
    obtain ⟨p, hp, h5⟩ := List.any_eq_true.mp (List.all_eq_true.mp hes e he)
    simp only [Bool.and_eq_true] at h5
    exact ⟨hP.1, hP.2.1, hP.2.2, p, hp, resO_ok hSa h5.1, arF_ok hSa hP.1 hK h5.2⟩
  intro N
  induction N with
  | zero => intro u _ r J _ _ _ hm; exact absurd hm (Nat.not_lt_zero _)
  | succ N ih =>
    intro u hu r J hSa hP hK hm
    obtain ⟨g, hg1, hug⟩ := List.mem_flatten.mp hu
    obtain ⟨ctg, ng, hctg, h4⟩ := hg g hg1
    have hR := run_ok hO hmc hctg ng
    have h5 := List.all_eq_true.mp h4 u hug
    simp only [chkU, Bool.and_eq_true] at h5
    obtain ⟨h5, h6⟩ := h5
    unfold allE at h6
    split at h6
    · rename_i es hes
      exact hR _ _ _ _ _ _ _ _ _ _ hes (fun _ h => h) k _ r I (fun u' hu' r' J' a1 a2 a3 a4 => ih u' (List.mem_flatten.mpr ⟨g, hg1, hu'⟩) r' J' a1 a2 a3 (by omega)) (mxO_ok h5 (by unfold spG; rw [List.length_append, List.length_map]; omega)) (hend _ _ es h6) r J (fun _ _ => rfl) hSa hP hK
    · cases h6
