theorem dX8_step_20 : decode cX8_step 20 = .ok (.iload_n 2, 1) := by decide +kernel
theorem dX8_step_21 : decode cX8_step 21 = .ok (.iload_n 1, 1) := by decide +kernel
theorem dX8_step_22 : decode cX8_step 22 = .ok (.if_icmp .ge 20, 3) := by decide +kernel
theorem dX8_step_25 : decode cX8_step 25 = .ok (.aload_n 0, 1) := by decide +kernel
theorem dX8_step_26 : decode cX8_step 26 = .ok (.getfield 9, 3) := by decide +kernel
theorem dX8_step_29 : decode cX8_step 29 = .ok (.iload_n 2, 1) := by decide +kernel
theorem dX8_step_30 : decode cX8_step 30 = .ok (.iaload, 1) := by decide +kernel
theorem dX8_step_31 : decode cX8_step 31 = .ok (.bipush 32, 2) := by decide +kernel
theorem dX8_step_33 : decode cX8_step 33 = .ok (.if_icmp .ne 9, 3) := by decide +kernel
theorem dX8_step_36 : decode cX8_step 36 = .ok (.iinc 2 1, 3) := by decide +kernel
theorem dX8_step_39 : decode cX8_step 39 = .ok (.goto (-19), 3) := by decide +kernel
theorem dX8_step_71 : decode cX8_step 71 = .ok (.iload_n 2, 1) := by decide +kernel
theorem dX8_step_72 : decode cX8_step 72 = .ok (.iload_n 1, 1) := by decide +kernel
theorem dX8_step_73 : decode cX8_step 73 = .ok (.if_icmp .ge 65, 3) := by decide +kernel
theorem dX8_step_76 : decode cX8_step 76 = .ok (.aload_n 0, 1) := by decide +kernel
theorem dX8_step_77 : decode cX8_step 77 = .ok (.getfield 9, 3) := by decide +kernel
theorem dX8_step_80 : decode cX8_step 80 = .ok (.iload_n 2, 1) := by decide +kernel
theorem dX8_step_81 : decode cX8_step 81 = .ok (.iaload, 1) := by decide +kernel
theorem dX8_step_82 : decode cX8_step 82 = .ok (.bipush 97, 2) := by decide +kernel
theorem dX8_step_84 : decode cX8_step 84 = .ok (.if_icmp .lt 54, 3) := by decide +kernel
theorem dX8_step_87 : decode cX8_step 87 = .ok (.aload_n 0, 1) := by decide +kernel
theorem dX8_step_88 : decode cX8_step 88 = .ok (.getfield 9, 3) := by decide +kernel
theorem dX8_step_91 : decode cX8_step 91 = .ok (.iload_n 2, 1) := by decide +kernel
theorem dX8_step_92 : decode cX8_step 92 = .ok (.iaload, 1) := by decide +kernel
theorem dX8_step_93 : decode cX8_step 93 = .ok (.bipush 122, 2) := by decide +kernel
theorem dX8_step_95 : decode cX8_step 95 = .ok (.if_icmp .gt 43, 3) := by decide +kernel
theorem dX8_step_98 : decode cX8_step 98 = .ok (.aload_n 0, 1) := by decide +kernel
theorem dX8_step_99 : decode cX8_step 99 = .ok (.iload_n 2, 1) := by decide +kernel
theorem dX8_step_100 : decode cX8_step 100 = .ok (.aload_n 0, 1) := by decide +kernel
theorem dX8_step_101 : decode cX8_step 101 = .ok (.getfield 25, 3) := by decide +kernel
theorem dX8_step_104 : decode cX8_step 104 = .ok (.isub, 1) := by decide +kernel
theorem dX8_step_105 : decode cX8_step 105 = .ok (.iconst 5, 1) := by decide +kernel
theorem dX8_step_106 : decode cX8_step 106 = .ok (.if_icmp .ge 22, 3) := by decide +kernel
theorem dX8_step_128 : decode cX8_step 128 = .ok (.iconst (-1), 1) := by decide +kernel
theorem dX8_step_129 : decode cX8_step 129 = .ok (.putfield 40, 3) := by decide +kernel
theorem dX8_step_132 : decode cX8_step 132 = .ok (.iinc 2 1, 3) := by decide +kernel
theorem dX8_step_135 : decode cX8_step 135 = .ok (.goto (-64), 3) := by decide +kernel
theorem dX8_step_109 : decode cX8_step 109 = .ok (.aload_n 0, 1) := by decide +kernel
theorem dX8_step_110 : decode cX8_step 110 = .ok (.getfield 40, 3) := by decide +kernel
theorem dX8_step_113 : decode cX8_step 113 = .ok (.iconst 5, 1) := by decide +kernel
theorem dX8_step_114 : decode cX8_step 114 = .ok (.ishl, 1) := by decide +kernel
theorem dX8_step_115 : decode cX8_step 115 = .ok (.aload_n 0, 1) := by decide +kernel
theorem dX8_step_116 : decode cX8_step 116 = .ok (.getfield 9, 3) := by decide +kernel
theorem dX8_step_119 : decode cX8_step 119 = .ok (.iload_n 2, 1) := by decide +kernel
theorem dX8_step_120 : decode cX8_step 120 = .ok (.iaload, 1) := by decide +kernel
theorem dX8_step_121 : decode cX8_step 121 = .ok (.bipush 32, 2) := by decide +kernel
theorem dX8_step_123 : decode cX8_step 123 = .ok (.irem, 1) := by decide +kernel
theorem dX8_step_124 : decode cX8_step 124 = .ok (.ior, 1) := by decide +kernel
theorem dX8_step_125 : decode cX8_step 125 = .ok (.goto 4, 3) := by decide +kernel
theorem dX8_step_143 : decode cX8_step 143 = .ok (.aload_n 0, 1) := by decide +kernel
theorem dX8_step_144 : decode cX8_step 144 = .ok (.getfield 40, 3) := by decide +kernel
theorem dX8_step_147 : decode cX8_step 147 = .ok (.ifCond .ne 75, 3) := by decide +kernel
theorem dX8_step_150 : decode cX8_step 150 = .ok (.iload_n 2, 1) := by decide +kernel
theorem dX8_step_151 : decode cX8_step 151 = .ok (.iload_n 1, 1) := by decide +kernel
theorem dX8_step_152 : decode cX8_step 152 = .ok (.if_icmp .ge 70, 3) := by decide +kernel
theorem dX8_step_155 : decode cX8_step 155 = .ok (.aload_n 0, 1) := by decide +kernel
theorem dX8_step_156 : decode cX8_step 156 = .ok (.getfield 9, 3) := by decide +kernel
theorem dX8_step_159 : decode cX8_step 159 = .ok (.iload_n 2, 1) := by decide +kernel
theorem dX8_step_160 : decode cX8_step 160 = .ok (.iaload, 1) := by decide +kernel
theorem dX8_step_161 : decode cX8_step 161 = .ok (.bipush 48, 2) := by decide +kernel
theorem dX8_step_163 : decode cX8_step 163 = .ok (.if_icmp .lt 59, 3) := by decide +kernel
theorem dX8_step_166 : decode cX8_step 166 = .ok (.aload_n 0, 1) := by decide +kernel
theorem dX8_step_167 : decode cX8_step 167 = .ok (.getfield 9, 3) := by decide +kernel
theorem dX8_step_170 : decode cX8_step 170 = .ok (.iload_n 2, 1) := by decide +kernel
theorem dX8_step_171 : decode cX8_step 171 = .ok (.iaload, 1) := by decide +kernel
theorem dX8_step_172 : decode cX8_step 172 = .ok (.bipush 57, 2) := by decide +kernel
theorem dX8_step_174 : decode cX8_step 174 = .ok (.if_icmp .gt 48, 3) := by decide +kernel
theorem dX8_step_177 : decode cX8_step 177 = .ok (.aload_n 0, 1) := by decide +kernel
theorem dX8_step_178 : decode cX8_step 178 = .ok (.iload_n 2, 1) := by decide +kernel
theorem dX8_step_179 : decode cX8_step 179 = .ok (.aload_n 0, 1) := by decide +kernel
theorem dX8_step_180 : decode cX8_step 180 = .ok (.getfield 25, 3) := by decide +kernel
theorem dX8_step_183 : decode cX8_step 183 = .ok (.isub, 1) := by decide +kernel
theorem dX8_step_184 : decode cX8_step 184 = .ok (.iconst 3, 1) := by decide +kernel
theorem dX8_step_185 : decode cX8_step 185 = .ok (.if_icmp .ge 27, 3) := by decide +kernel
theorem dX8_step_212 : decode cX8_step 212 = .ok (.iconst (-1), 1) := by decide +kernel
theorem dX8_step_213 : decode cX8_step 213 = .ok (.putfield 43, 3) := by decide +kernel
theorem dX8_step_216 : decode cX8_step 216 = .ok (.iinc 2 1, 3) := by decide +kernel
theorem dX8_step_219 : decode cX8_step 219 = .ok (.goto (-76), 3) := by decide +kernel
theorem dX8_step_188 : decode cX8_step 188 = .ok (.bipush 10, 2) := by decide +kernel
theorem dX8_step_190 : decode cX8_step 190 = .ok (.aload_n 0, 1) := by decide +kernel
theorem dX8_step_191 : decode cX8_step 191 = .ok (.getfield 43, 3) := by decide +kernel
theorem dX8_step_194 : decode cX8_step 194 = .ok (.iconst 0, 1) := by decide +kernel
theorem dX8_step_195 : decode cX8_step 195 = .ok (.invokestatic 34, 3) := by decide +kernel
theorem dX8_step_198 : decode cX8_step 198 = .ok (.imul, 1) := by decide +kernel
theorem dX8_step_199 : decode cX8_step 199 = .ok (.aload_n 0, 1) := by decide +kernel
theorem dX8_step_200 : decode cX8_step 200 = .ok (.getfield 9, 3) := by decide +kernel
theorem dX8_step_203 : decode cX8_step 203 = .ok (.iload_n 2, 1) := by decide +kernel
theorem dX8_step_204 : decode cX8_step 204 = .ok (.iaload, 1) := by decide +kernel
theorem dX8_step_205 : decode cX8_step 205 = .ok (.iadd, 1) := by decide +kernel
theorem dX8_step_206 : decode cX8_step 206 = .ok (.bipush 48, 2) := by decide +kernel
theorem dX8_step_208 : decode cX8_step 208 = .ok (.isub, 1) := by decide +kernel
theorem dX8_step_209 : decode cX8_step 209 = .ok (.goto 4, 3) := by decide +kernel
theorem dX8_step_222 : decode cX8_step 222 = .ok (.aload_n 0, 1) := by decide +kernel
theorem dX8_step_223 : decode cX8_step 223 = .ok (.iload_n 2, 1) := by decide +kernel
theorem dX8_step_224 : decode cX8_step 224 = .ok (.aload_n 0, 1) := by decide +kernel
theorem dX8_step_225 : decode cX8_step 225 = .ok (.getfield 25, 3) := by decide +kernel
theorem dX8_step_228 : decode cX8_step 228 = .ok (.if_icmp .le 7, 3) := by decide +kernel
theorem dX8_step_235 : decode cX8_step 235 = .ok (.aload_n 0, 1) := by decide +kernel
theorem dX8_step_236 : decode cX8_step 236 = .ok (.getfield 25, 3) := by decide +kernel
theorem dX8_step_239 : decode cX8_step 239 = .ok (.iconst 1, 1) := by decide +kernel
theorem dX8_step_240 : decode cX8_step 240 = .ok (.iadd, 1) := by decide +kernel
theorem dX8_step_241 : decode cX8_step 241 = .ok (.putfield 19, 3) := by decide +kernel
theorem dX8_step_244 : decode cX8_step 244 = .ok (.return_, 1) := by decide +kernel
theorem dX8_step_231 : decode cX8_step 231 = .ok (.iload_n 2, 1) := by decide +kernel
theorem dX8_step_232 : decode cX8_step 232 = .ok (.goto 9, 3) := by decide +kernel
theorem dX8_step_0 : decode cX8_step 0 = .ok (.aload_n 0, 1) := by decide +kernel
theorem dX8_step_1 : decode cX8_step 1 = .ok (.getfield 15, 3) := by decide +kernel
theorem dX8_step_4 : decode cX8_step 4 = .ok (.sipush 400, 3) := by decide +kernel
theorem dX8_step_7 : decode cX8_step 7 = .ok (.invokestatic 28, 3) := by decide +kernel
theorem dX8_step_10 : decode cX8_step 10 = .ok (.istore_n 1, 1) := by decide +kernel
theorem dX8_step_11 : decode cX8_step 11 = .ok (.aload_n 0, 1) := by decide +kernel
theorem dX8_step_12 : decode cX8_step 12 = .ok (.getfield 19, 3) := by decide +kernel
theorem dX8_step_15 : decode cX8_step 15 = .ok (.iconst 0, 1) := by decide +kernel
theorem dX8_step_16 : decode cX8_step 16 = .ok (.invokestatic 34, 3) := by decide +kernel
theorem dX8_step_19 : decode cX8_step 19 = .ok (.istore_n 2, 1) := by decide +kernel
theorem dX8_step_42 : decode cX8_step 42 = .ok (.aload_n 0, 1) := by decide +kernel
theorem dX8_step_43 : decode cX8_step 43 = .ok (.iload_n 2, 1) := by decide +kernel
theorem dX8_step_44 : decode cX8_step 44 = .ok (.putfield 25, 3) := by decide +kernel
theorem dX8_step_63 : decode cX8_step 63 = .ok (.putfield 37, 3) := by decide +kernel
theorem dX8_step_66 : decode cX8_step 66 = .ok (.aload_n 0, 1) := by decide +kernel
theorem dX8_step_67 : decode cX8_step 67 = .ok (.iconst 0, 1) := by decide +kernel
theorem dX8_step_68 : decode cX8_step 68 = .ok (.putfield 40, 3) := by decide +kernel
theorem dX8_step_138 : decode cX8_step 138 = .ok (.aload_n 0, 1) := by decide +kernel
theorem dX8_step_139 : decode cX8_step 139 = .ok (.iconst (-1), 1) := by decide +kernel
theorem dX8_step_140 : decode cX8_step 140 = .ok (.putfield 43, 3) := by decide +kernel
theorem dX8_step_47 : decode cX8_step 47 = .ok (.aload_n 0, 1) := by decide +kernel
theorem dX8_step_48 : decode cX8_step 48 = .ok (.iload_n 2, 1) := by decide +kernel
theorem dX8_step_49 : decode cX8_step 49 = .ok (.iload_n 1, 1) := by decide +kernel
theorem dX8_step_50 : decode cX8_step 50 = .ok (.if_icmp .ge 12, 3) := by decide +kernel
theorem dX8_step_62 : decode cX8_step 62 = .ok (.iconst (-1), 1) := by decide +kernel
theorem dX8_step_53 : decode cX8_step 53 = .ok (.aload_n 0, 1) := by decide +kernel
theorem dX8_step_54 : decode cX8_step 54 = .ok (.getfield 9, 3) := by decide +kernel
theorem dX8_step_57 : decode cX8_step 57 = .ok (.iload_n 2, 1) := by decide +kernel
theorem dX8_step_58 : decode cX8_step 58 = .ok (.iaload, 1) := by decide +kernel
theorem dX8_step_59 : decode cX8_step 59 = .ok (.goto 4, 3) := by decide +kernel
/-! the class's tape: its next thing -/
def TA (A : Nat → Int32) (a b w n f : Int32) : Nat → Int32 := fun j => if j = 2 then a else if j = 3 then b else if j = 4 then w else if j = 5 then n else if j = 6 then f else A j
def TS (I : Hi) (a b w n f : Int32) : Hi := zset I 1 (TA (I 1) a b w n f)
theorem TA_2 (A : Nat → Int32) (a b w n f x : Int32) : upd (TA A a b w n f) 2 x = TA A x b w n f := by
  funext j
  simp only [upd, TA]
  by_cases e : j = 2
  · subst e; rfl
  · rw [if_neg e]
    repeat rw [if_neg e]
theorem TS_2 (I : Hi) (a b w n f x : Int32) : zup (TS I a b w n f) 1 2 x = TS I x b w n f := by
  rw [TS, zup_zset, TA_2]; rfl
theorem TA_3 (A : Nat → Int32) (a b w n f x : Int32) : upd (TA A a b w n f) 3 x = TA A a x w n f := by
  funext j
  simp only [upd, TA]
  by_cases e : j = 3
  · subst e; rfl
  · rw [if_neg e]
    repeat rw [if_neg e]
theorem TS_3 (I : Hi) (a b w n f x : Int32) : zup (TS I a b w n f) 1 3 x = TS I a x w n f := by
  rw [TS, zup_zset, TA_3]; rfl
theorem TA_4 (A : Nat → Int32) (a b w n f x : Int32) : upd (TA A a b w n f) 4 x = TA A a b x n f := by
  funext j
  simp only [upd, TA]
  by_cases e : j = 4
  · subst e; rfl
  · rw [if_neg e]
    repeat rw [if_neg e]
theorem TS_4 (I : Hi) (a b w n f x : Int32) : zup (TS I a b w n f) 1 4 x = TS I a b x n f := by
  rw [TS, zup_zset, TA_4]; rfl
theorem TA_5 (A : Nat → Int32) (a b w n f x : Int32) : upd (TA A a b w n f) 5 x = TA A a b w x f := by
  funext j
  simp only [upd, TA]
  by_cases e : j = 5
  · subst e; rfl
  · rw [if_neg e]
    repeat rw [if_neg e]
theorem TS_5 (I : Hi) (a b w n f x : Int32) : zup (TS I a b w n f) 1 5 x = TS I a b w x f := by
  rw [TS, zup_zset, TA_5]; rfl
theorem TA_6 (A : Nat → Int32) (a b w n f x : Int32) : upd (TA A a b w n f) 6 x = TA A a b w n x := by
  funext j
  simp only [upd, TA]
  by_cases e : j = 6
  · subst e; rfl
  · rw [if_neg e]
    repeat rw [if_neg e]
theorem TS_6 (I : Hi) (a b w n f x : Int32) : zup (TS I a b w n f) 1 6 x = TS I a b w n x := by
  rw [TS, zup_zset, TA_6]; rfl
theorem TS_self (I : Hi) : TS I (I 1 2) (I 1 3) (I 1 4) (I 1 5) (I 1 6) = I := by
  have e : TA (I 1) (I 1 2) (I 1 3) (I 1 4) (I 1 5) (I 1 6) = I 1 := by
    funext j
    simp only [TA]
    by_cases e2 : j = 2
    · rw [if_pos e2, e2]
    · rw [if_neg e2]
      by_cases e3 : j = 3
      · rw [if_pos e3, e3]
      · rw [if_neg e3]
        by_cases e4 : j = 4
        · rw [if_pos e4, e4]
        · rw [if_neg e4]
          by_cases e5 : j = 5
          · rw [if_pos e5, e5]
          · rw [if_neg e5]
            by_cases e6 : j = 6
            · rw [if_pos e6, e6]
            · rw [if_neg e6]
  unfold TS
  rw [e, zset_self]
/-- the class's tape holds these bytes -/
def TX (I : Hi) (c : Nat → Nat) (e : Nat) : Prop := e ≤ 400 ∧ I 1 1 = nI e ∧ ∀ i, i < e → I 2 i = nI (c i) ∧ c i < 256
/-- the tape stands at q -/
def TQ5 (I : Hi) (c : Nat → Nat) (e q : Nat) : Hi := TS I (nI q) (nI (bh c e q)) (wv c e q) (tn c e q) (fs c e q)
section Stp
variable (G : Gx) (d : Nat) (I : Hi) {c : Nat → Nat} {e : Nat}
theorem st_b {kx : Kx} {b : Nat} (hT : TX I c e) (q : Nat) (kk : Rn G GAM mX8_step kx d b 42 [some (.ref 1), some (.int (nI e)), some (.int (nI q))] [] I) : ∀ m p, e ≤ p + m → p ≤ e → bl c e p = q → Rn G GAM mX8_step kx d b 20 [some (.ref 1), some (.int (nI e)), some (.int (nI p))] [] I := by
  have he := hT.1
  intro m
  induction m with
  | zero =>
    intro p h1 h2 h3
    rw [bl, rn_out (fun z => absurd z (by omega))] at h3
    subst h3
    refine Rn.iload_n dX8_step_20 rfl rfl ?_
    refine Rn.iload_n dX8_step_21 rfl rfl ?_
    refine Rn.icmp_geN dX8_step_22 42 (fun _ => ?_) (fun h9 => by exfalso; omega)
    exact kk
  | succ m ih =>
    intro p h1 h2 h3
    refine Rn.iload_n dX8_step_20 rfl rfl ?_
    refine Rn.iload_n dX8_step_21 rfl rfl ?_
    refine Rn.icmp_geN dX8_step_22 42 (fun h4 => ?_) (fun h4 => ?_)
    · rw [bl, rn_out (fun z => absurd z (by omega))] at h3
      subst h3
      exact kk
    · have hc := hT.2.2 p (by omega)
      refine Rn.aload_n dX8_step_25 rfl rfl ?_
      refine Rn.getR dX8_step_26 fd_X8_9_7 (by first | rfl | exact gC0 (by assumption) | exact gL0 (by assumption)) rfl ?_
      refine Rn.iload_n dX8_step_29 rfl rfl ?_
      refine Rn.ialdN dX8_step_30 (by first | rfl | exact gC1 (by assumption) | exact gC2 (by assumption) | exact gC3 (by assumption) | exact gL1 (by assumption) | exact gL2 (by assumption) | exact gL3 (by assumption) | exact gL4 (by assumption) | exact gL5 (by assumption) | exact gL6 (by assumption)) ?_
      refine Rn.topI (nI (c p)) (by exact hc.1) ?_
      refine Rn.bipush (v := (nI 32)) dX8_step_31 rfl ?_
      refine Rn.icmp_neN dX8_step_33 42 (fun h5 => ?_) (fun h5 => ?_)
      · rw [bl, rn_out (fun z y => h5 (by omega))] at h3
        subst h3
        exact kk
      · rw [bl, rn_in h4 ⟨by omega, by omega⟩] at h3
        refine Rn.iincN dX8_step_36 rfl (by decide) ?_
        refine Rn.goto 20 dX8_step_39 (by decide) ?_
        exact ih (p + 1) (by omega) (by omega) h3
theorem st_l {kx : Kx} {b : Nat} (hT : TX I c e) (q : Nat) (x3 x5 x6 : Int32) (kk : ∀ k, lx c e q = q + k → Rn G GAM mX8_step kx d b 138 [some (.ref 1), some (.int (nI e)), some (.int (nI (q + k)))] [] (TS I (nI q) x3 (wvK c q k) x5 x6)) : ∀ m k, e ≤ q + k + m → q + k ≤ e → lx c e q = lx c e (q + k) → Rn G GAM mX8_step kx d b 71 [some (.ref 1), some (.int (nI e)), some (.int (nI (q + k)))] [] (TS I (nI q) x3 (wvK c q k) x5 x6) := by
  have he := hT.1
  intro m
  induction m with
  | zero =>
    intro k h1 h2 h3
    rw [lx, lx, rn_out (p := q + k) (fun z => absurd z (by omega))] at h3
    refine Rn.iload_n dX8_step_71 rfl rfl ?_
    refine Rn.iload_n dX8_step_72 rfl rfl ?_
    refine Rn.icmp_geN dX8_step_73 138 (fun _ => ?_) (fun h9 => by exfalso; omega)
    exact kk k h3
  | succ m ih =>
    intro k h1 h2 h3
    refine Rn.iload_n dX8_step_71 rfl rfl ?_
    refine Rn.iload_n dX8_step_72 rfl rfl ?_
    refine Rn.icmp_geN dX8_step_73 138 (fun h4 => ?_) (fun h4 => ?_)
    · rw [lx, lx, rn_out (p := q + k) (fun z => absurd z (by omega))] at h3
      exact kk k h3
    · have hc := hT.2.2 (q + k) (by omega)
      refine Rn.aload_n dX8_step_76 rfl rfl ?_
      refine Rn.getR dX8_step_77 fd_X8_9_7 (by first | rfl | exact gC0 (by assumption) | exact gL0 (by assumption)) rfl ?_
      refine Rn.iload_n dX8_step_80 rfl rfl ?_
      refine Rn.ialdN dX8_step_81 (by first | rfl | exact gC1 (by assumption) | exact gC2 (by assumption) | exact gC3 (by assumption) | exact gL1 (by assumption) | exact gL2 (by assumption) | exact gL3 (by assumption) | exact gL4 (by assumption) | exact gL5 (by assumption) | exact gL6 (by assumption)) ?_
      refine Rn.topI (nI (c (q + k))) (by exact hc.1) ?_
      refine Rn.bipush (v := (nI 97)) dX8_step_82 rfl ?_
      refine Rn.icmp_ltN dX8_step_84 138 (fun h5 => ?_) (fun h5 => ?_)
      · rw [lx, lx, rn_out (p := q + k) (fun z y => absurd y.1 (by omega))] at h3
        exact kk k h3
      · refine Rn.aload_n dX8_step_87 rfl rfl ?_
        refine Rn.getR dX8_step_88 fd_X8_9_7 (by first | rfl | exact gC0 (by assumption) | exact gL0 (by assumption)) rfl ?_
        refine Rn.iload_n dX8_step_91 rfl rfl ?_
        refine Rn.ialdN dX8_step_92 (by first | rfl | exact gC1 (by assumption) | exact gC2 (by assumption) | exact gC3 (by assumption) | exact gL1 (by assumption) | exact gL2 (by assumption) | exact gL3 (by assumption) | exact gL4 (by assumption) | exact gL5 (by assumption) | exact gL6 (by assumption)) ?_
        refine Rn.topI (nI (c (q + k))) (by exact hc.1) ?_
        refine Rn.bipush (v := (nI 122)) dX8_step_93 rfl ?_
        refine Rn.icmp_gtN dX8_step_95 138 (fun h6 => ?_) (fun h6 => ?_)
        · rw [lx, lx, rn_out (p := q + k) (fun z y => absurd y.2 (by omega))] at h3
          exact kk k h3
        · rw [lx, lx, rn_in (p := q + k) h4 ⟨h5, h6⟩] at h3
          refine Rn.aload_n dX8_step_98 rfl rfl ?_
          refine Rn.iload_n dX8_step_99 rfl rfl ?_
          refine Rn.aload_n dX8_step_100 rfl rfl ?_
          refine Rn.getI dX8_step_101 fd_X8_25_7 (by first | rfl | exact gC0 (by assumption) | exact gL0 (by assumption)) rfl ?_
          refine Rn.topI (nI q) (by rfl) ?_
          refine Rn.isub dX8_step_104 ?_
          refine Rn.topI (nI k) (by rw [← nI_add, Int32.add_comm, Int32.add_sub_cancel]) ?_
          refine Rn.iconst (v := (nI 5)) dX8_step_105 rfl ?_
          refine Rn.icmp_geN dX8_step_106 128 (fun h7 => ?_) (fun h7 => ?_)
          · refine Rn.iconst (v := (-1)) dX8_step_128 rfl ?_
            refine Rn.putI dX8_step_129 fp_X8_40_7 (by first | rfl | exact gC0 (by assumption) | exact gL0 (by assumption)) rfl ?_
            refine Rn.iincN dX8_step_132 rfl (by decide) ?_
            refine Rn.goto 71 dX8_step_135 (by decide) ?_
            refine Rn.hpp _ (TS_4 _ _ _ _ _ _ _) ?_
            exact Rn.hpp (TS I (nI q) x3 (wvK c q (k + 1)) x5 x6) (by rw [show wvK c q (k + 1) = -1 from if_neg (by omega)]) (ih (k + 1) (by omega) (by omega) h3)
          · refine Rn.aload_n dX8_step_109 rfl rfl ?_
            refine Rn.getI dX8_step_110 fd_X8_40_7 (by first | rfl | exact gC0 (by assumption) | exact gL0 (by assumption)) rfl ?_
            refine Rn.topI (nI (hw c q k)) (by exact if_pos (by omega)) ?_
            refine Rn.iconst (v := (nI 5)) dX8_step_113 rfl ?_
            refine Rn.ishl dX8_step_114 ?_
            refine Rn.aload_n dX8_step_115 rfl rfl ?_
            refine Rn.getR dX8_step_116 fd_X8_9_7 (by first | rfl | exact gC0 (by assumption) | exact gL0 (by assumption)) rfl ?_
            refine Rn.iload_n dX8_step_119 rfl rfl ?_
            refine Rn.ialdN dX8_step_120 (by first | rfl | exact gC1 (by assumption) | exact gC2 (by assumption) | exact gC3 (by assumption) | exact gL1 (by assumption) | exact gL2 (by assumption) | exact gL3 (by assumption) | exact gL4 (by assumption) | exact gL5 (by assumption) | exact gL6 (by assumption)) ?_
            refine Rn.topI (nI (c (q + k))) (by exact hc.1) ?_
            refine Rn.bipush (v := (nI 32)) dX8_step_121 rfl ?_
            refine Rn.irem dX8_step_123 (by decide) ?_
            refine Rn.topI (nI (c (q + k) % 32)) (by exact rem32 _ hc.2) ?_
            refine Rn.ior dX8_step_124 ?_
            refine Rn.topI (nI (hw c q (k + 1))) (by exact shl5 _ _ (Nat.lt_of_lt_of_le (hw_lt c q k) (Nat.pow_le_pow_right (n := 32) (i := k) (j := 4) (by decide) (by omega))) (by omega)) ?_
            refine Rn.goto 129 dX8_step_125 (by decide) ?_
            refine Rn.putI dX8_step_129 fp_X8_40_7 (by first | rfl | exact gC0 (by assumption) | exact gL0 (by assumption)) rfl ?_
            refine Rn.iincN dX8_step_132 rfl (by decide) ?_
            refine Rn.goto 71 dX8_step_135 (by decide) ?_
            refine Rn.hpp _ (TS_4 _ _ _ _ _ _ _) ?_
            exact Rn.hpp (TS I (nI q) x3 (wvK c q (k + 1)) x5 x6) (by rw [show wvK c q (k + 1) = nI (hw c q (k + 1)) from if_pos (by omega)]) (ih (k + 1) (by omega) (by omega) h3)
theorem st_d {kx : Kx} {b : Nat} (hT : TX I c e) (q : Nat) (x3 x6 : Int32) (kk : ∀ k, dx c e q = q + k → Rn G GAM mX8_step kx d b 222 [some (.ref 1), some (.int (nI e)), some (.int (nI (q + k)))] [] (TS I (nI q) x3 (nI 0) (tnK c q k) x6)) : ∀ m k, e ≤ q + k + m → q + k ≤ e → dx c e q = dx c e (q + k) → Rn G GAM mX8_step kx d b 143 [some (.ref 1), some (.int (nI e)), some (.int (nI (q + k)))] [] (TS I (nI q) x3 (nI 0) (tnK c q k) x6) := by
  have he := hT.1
  intro m
  induction m with
  | zero =>
    intro k h1 h2 h3
    rw [dx, dx, rn_out (p := q + k) (fun z => absurd z (by omega))] at h3
    refine Rn.aload_n dX8_step_143 rfl rfl ?_
    refine Rn.getI dX8_step_144 fd_X8_40_7 (by first | rfl | exact gC0 (by assumption) | exact gL0 (by assumption)) rfl ?_
    refine Rn.topI (nI 0) (by rfl) ?_
    refine Rn.if_ne (tgt := 222) dX8_step_147 (by decide) (fun h9 => absurd h9 (by decide)) (fun _ => ?_)
    refine Rn.iload_n dX8_step_150 rfl rfl ?_
    refine Rn.iload_n dX8_step_151 rfl rfl ?_
    refine Rn.icmp_geN dX8_step_152 222 (fun _ => ?_) (fun h9 => by exfalso; omega)
    exact kk k h3
  | succ m ih =>
    intro k h1 h2 h3
    refine Rn.aload_n dX8_step_143 rfl rfl ?_
    refine Rn.getI dX8_step_144 fd_X8_40_7 (by first | rfl | exact gC0 (by assumption) | exact gL0 (by assumption)) rfl ?_
    refine Rn.topI (nI 0) (by rfl) ?_
    refine Rn.if_ne (tgt := 222) dX8_step_147 (by decide) (fun h9 => absurd h9 (by decide)) (fun _ => ?_)
    refine Rn.iload_n dX8_step_150 rfl rfl ?_
    refine Rn.iload_n dX8_step_151 rfl rfl ?_
    refine Rn.icmp_geN dX8_step_152 222 (fun h4 => ?_) (fun h4 => ?_)
    · rw [dx, dx, rn_out (p := q + k) (fun z => absurd z (by omega))] at h3
      exact kk k h3
    · have hc := hT.2.2 (q + k) (by omega)
      refine Rn.aload_n dX8_step_155 rfl rfl ?_
      refine Rn.getR dX8_step_156 fd_X8_9_7 (by first | rfl | exact gC0 (by assumption) | exact gL0 (by assumption)) rfl ?_
      refine Rn.iload_n dX8_step_159 rfl rfl ?_
      refine Rn.ialdN dX8_step_160 (by first | rfl | exact gC1 (by assumption) | exact gC2 (by assumption) | exact gC3 (by assumption) | exact gL1 (by assumption) | exact gL2 (by assumption) | exact gL3 (by assumption) | exact gL4 (by assumption) | exact gL5 (by assumption) | exact gL6 (by assumption)) ?_
      refine Rn.topI (nI (c (q + k))) (by exact hc.1) ?_
      refine Rn.bipush (v := (nI 48)) dX8_step_161 rfl ?_
      refine Rn.icmp_ltN dX8_step_163 222 (fun h5 => ?_) (fun h5 => ?_)
      · rw [dx, dx, rn_out (p := q + k) (fun z y => absurd y.1 (by omega))] at h3
        exact kk k h3
      · refine Rn.aload_n dX8_step_166 rfl rfl ?_
        refine Rn.getR dX8_step_167 fd_X8_9_7 (by first | rfl | exact gC0 (by assumption) | exact gL0 (by assumption)) rfl ?_
        refine Rn.iload_n dX8_step_170 rfl rfl ?_
        refine Rn.ialdN dX8_step_171 (by first | rfl | exact gC1 (by assumption) | exact gC2 (by assumption) | exact gC3 (by assumption) | exact gL1 (by assumption) | exact gL2 (by assumption) | exact gL3 (by assumption) | exact gL4 (by assumption) | exact gL5 (by assumption) | exact gL6 (by assumption)) ?_
        refine Rn.topI (nI (c (q + k))) (by exact hc.1) ?_
        refine Rn.bipush (v := (nI 57)) dX8_step_172 rfl ?_
        refine Rn.icmp_gtN dX8_step_174 222 (fun h6 => ?_) (fun h6 => ?_)
        · rw [dx, dx, rn_out (p := q + k) (fun z y => absurd y.2 (by omega))] at h3
          exact kk k h3
        · have hd0 : ∀ i, q ≤ i → i < q + k → 48 ≤ c i ∧ c i ≤ 57 := fun i a b => rn_all (e := e) (p := q) a (by have h9 : q + k ≤ dx c e (q + k) := rn_ge; show i < dx c e q; rw [h3]; omega)
          rw [dx, dx, rn_in (p := q + k) h4 ⟨h5, h6⟩] at h3
          refine Rn.aload_n dX8_step_177 rfl rfl ?_
          refine Rn.iload_n dX8_step_178 rfl rfl ?_
          refine Rn.aload_n dX8_step_179 rfl rfl ?_
          refine Rn.getI dX8_step_180 fd_X8_25_7 (by first | rfl | exact gC0 (by assumption) | exact gL0 (by assumption)) rfl ?_
          refine Rn.topI (nI q) (by rfl) ?_
          refine Rn.isub dX8_step_183 ?_
          refine Rn.topI (nI k) (by rw [← nI_add, Int32.add_comm, Int32.add_sub_cancel]) ?_
          refine Rn.iconst (v := (nI 3)) dX8_step_184 rfl ?_
          refine Rn.icmp_geN dX8_step_185 212 (fun h7 => ?_) (fun h7 => ?_)
          · refine Rn.iconst (v := (-1)) dX8_step_212 rfl ?_
            refine Rn.putI dX8_step_213 fp_X8_43_7 (by first | rfl | exact gC0 (by assumption) | exact gL0 (by assumption)) rfl ?_
            refine Rn.iincN dX8_step_216 rfl (by decide) ?_
            refine Rn.goto 143 dX8_step_219 (by decide) ?_
            refine Rn.hpp _ (TS_5 _ _ _ _ _ _ _) ?_
            exact Rn.hpp (TS I (nI q) x3 (nI 0) (tnK c q (k + 1)) x6) (by rw [show tnK c q (k + 1) = -1 from if_neg (by omega)]) (ih (k + 1) (by omega) (by omega) h3)
          · have hv := nv_b hd0 (by omega)
            have hm : imax (tnK c q k) (nI 0) = nI (nv c q k) := by
              by_cases z : k = 0
              · subst z; show imax (-1) (nI 0) = nI 0; decide
              · rw [show tnK c q k = nI (nv c q k) from if_pos (by omega)]
                exact max0 _ hv
            refine Rn.bipush (v := (nI 10)) dX8_step_188 rfl ?_
            refine Rn.aload_n dX8_step_190 rfl rfl ?_
            refine Rn.getI dX8_step_191 fd_X8_43_7 (by first | rfl | exact gC0 (by assumption) | exact gL0 (by assumption)) rfl ?_
            refine Rn.topI (tnK c q k) (by rfl) ?_
            refine Rn.iconst (v := (nI 0)) dX8_step_194 rfl ?_
            refine Rn.mmax dX8_step_195 ms_X8_34 (Nat.le_of_ble_eq_true rfl) ?_
            refine Rn.topI (nI (nv c q k)) (by exact hm) ?_
            refine Rn.imul dX8_step_198 ?_
            refine Rn.topI (nI (10 * nv c q k)) (by exact pk_mul _ _) ?_
            refine Rn.aload_n dX8_step_199 rfl rfl ?_
            refine Rn.getR dX8_step_200 fd_X8_9_7 (by first | rfl | exact gC0 (by assumption) | exact gL0 (by assumption)) rfl ?_
            refine Rn.iload_n dX8_step_203 rfl rfl ?_
            refine Rn.ialdN dX8_step_204 (by first | rfl | exact gC1 (by assumption) | exact gC2 (by assumption) | exact gC3 (by assumption) | exact gL1 (by assumption) | exact gL2 (by assumption) | exact gL3 (by assumption) | exact gL4 (by assumption) | exact gL5 (by assumption) | exact gL6 (by assumption)) ?_
            refine Rn.topI (nI (c (q + k))) (by exact hc.1) ?_
            refine Rn.iadd dX8_step_205 ?_
            refine Rn.topI (nI (10 * nv c q k + c (q + k))) (by exact nI_add _ _) ?_
            refine Rn.bipush (v := (nI 48)) dX8_step_206 rfl ?_
            refine Rn.isub dX8_step_208 ?_
            refine Rn.topI (nI (nv c q (k + 1))) (by exact (pk_sub (by omega)).trans (congrArg nI (by show _ = 10 * nv c q k + (c (q + k) - 48); omega))) ?_
            refine Rn.goto 213 dX8_step_209 (by decide) ?_
            refine Rn.putI dX8_step_213 fp_X8_43_7 (by first | rfl | exact gC0 (by assumption) | exact gL0 (by assumption)) rfl ?_
            refine Rn.iincN dX8_step_216 rfl (by decide) ?_
            refine Rn.goto 143 dX8_step_219 (by decide) ?_
            refine Rn.hpp _ (TS_5 _ _ _ _ _ _ _) ?_
            exact Rn.hpp (TS I (nI q) x3 (nI 0) (tnK c q (k + 1)) x6) (by rw [show tnK c q (k + 1) = nI (nv c q (k + 1)) from if_pos (by omega)]) (ih (k + 1) (by omega) (by omega) h3)
theorem st_e {b : Nat} {P : Rs → Hi → Prop} (q i : Nat) (x3 x4 x5 x6 : Int32) (hi : i < 1000) (hq : q < 1000) (kk : P (.inl none) (TS I (nI q) (nI (if q < i then i else q + 1)) x4 x5 x6)) : Rn G GAM mX8_step (kM G GAM P) d b 222 [some (.ref 1), some (.int (nI e)), some (.int (nI i))] [] (TS I (nI q) x3 x4 x5 x6) := by
  refine Rn.aload_n dX8_step_222 rfl rfl ?_
  refine Rn.iload_n dX8_step_223 rfl rfl ?_
  refine Rn.aload_n dX8_step_224 rfl rfl ?_
  refine Rn.getI dX8_step_225 fd_X8_25_7 (by first | rfl | exact gC0 (by assumption) | exact gL0 (by assumption)) rfl ?_
  refine Rn.topI (nI q) (by rfl) ?_
  refine Rn.icmp_leN dX8_step_228 235 (fun h1 => ?_) (fun h1 => ?_)
  · rw [if_neg (by omega)] at kk
    refine Rn.aload_n dX8_step_235 rfl rfl ?_
    refine Rn.getI dX8_step_236 fd_X8_25_7 (by first | rfl | exact gC0 (by assumption) | exact gL0 (by assumption)) rfl ?_
    refine Rn.topI (nI q) (by rfl) ?_
    refine Rn.iconst (v := (nI 1)) dX8_step_239 rfl ?_
    refine Rn.iadd dX8_step_240 ?_
    refine Rn.topI (nI (q + 1)) (by exact nI_1 q) ?_
    refine Rn.putI dX8_step_241 fp_X8_19_7 (by first | rfl | exact gC0 (by assumption) | exact gL0 (by assumption)) rfl ?_
    refine Rn.hpp _ (TS_3 _ _ _ _ _ _ _) ?_
    exact Rn.vret dX8_step_244 rfl (kk)
  · rw [if_pos (by omega)] at kk
    refine Rn.iload_n dX8_step_231 rfl rfl ?_
    refine Rn.goto 241 dX8_step_232 (by decide) ?_
    refine Rn.putI dX8_step_241 fp_X8_19_7 (by first | rfl | exact gC0 (by assumption) | exact gL0 (by assumption)) rfl ?_
    refine Rn.hpp _ (TS_3 _ _ _ _ _ _ _) ?_
    exact Rn.vret dX8_step_244 rfl (kk)
theorem ct_step5 (hT : TX I c e) (p : Nat) (hp : p ≤ e) (h3 : I 1 3 = nI p) : Ct G GAM mX8_step d 0 [.ref 1] I (Rp none (TQ5 I c e (bl c e p))) := by
  have he := hT.1
  have hq : bl c e p ≤ e := rn_le hp
  refine Ct.mk [some (.ref 1), none, none] ?_
  refine Rn.aload_n dX8_step_0 rfl rfl ?_
  refine Rn.getI dX8_step_1 fd_X8_15_7 (by first | rfl | exact gC0 (by assumption) | exact gL0 (by assumption)) rfl ?_
  refine Rn.topI (nI e) (by exact hT.2.1) ?_
  refine Rn.sipush (v := (nI 400)) dX8_step_4 rfl ?_
  refine Rn.mmin dX8_step_7 ms_X8_28 (Nat.le_of_ble_eq_true rfl) ?_
  refine Rn.topI (nI e) (by exact min400 e (by omega)) ?_
  refine Rn.istore_n dX8_step_10 rfl (by decide) ?_
  refine Rn.aload_n dX8_step_11 rfl rfl ?_
  refine Rn.getI dX8_step_12 fd_X8_19_7 (by first | rfl | exact gC0 (by assumption) | exact gL0 (by assumption)) rfl ?_
  refine Rn.topI (nI p) (by exact h3) ?_
  refine Rn.iconst (v := (nI 0)) dX8_step_15 rfl ?_
  refine Rn.mmax dX8_step_16 ms_X8_34 (Nat.le_of_ble_eq_true rfl) ?_
  refine Rn.topI (nI p) (by exact max0 p (by omega)) ?_
  refine Rn.istore_n dX8_step_19 rfl (by decide) ?_
  refine st_b G d I hT (bl c e p) ?_ e p (by omega) hp rfl
  generalize bl c e p = q at hq ⊢
  refine Rn.hpp _ (TS_self I).symm ?_
  refine Rn.aload_n dX8_step_42 rfl rfl ?_
  refine Rn.iload_n dX8_step_43 rfl rfl ?_
  refine Rn.putI dX8_step_44 fp_X8_25_7 (by first | rfl | exact gC0 (by assumption) | exact gL0 (by assumption)) rfl ?_
  refine Rn.hpp _ (TS_2 _ _ _ _ _ _ _) ?_
  have kk : Rn G GAM mX8_step (kM G GAM (Rp none (TQ5 I c e q))) d 0 63 [some (.ref 1), some (.int (nI e)), some (.int (nI q))] [.int (fs c e q), .ref 1] (TS I (nI q) (I 1 3) (I 1 4) (I 1 5) (I 1 6)) := by
    refine Rn.putI dX8_step_63 fp_X8_37_7 (by first | rfl | exact gC0 (by assumption) | exact gL0 (by assumption)) rfl ?_
    refine Rn.hpp _ (TS_6 _ _ _ _ _ _ _) ?_
    refine Rn.aload_n dX8_step_66 rfl rfl ?_
    refine Rn.iconst (v := (nI 0)) dX8_step_67 rfl ?_
    refine Rn.putI dX8_step_68 fp_X8_40_7 (by first | rfl | exact gC0 (by assumption) | exact gL0 (by assumption)) rfl ?_
    refine Rn.hpp _ (TS_4 _ _ _ _ _ _ _) ?_
    refine st_l G d I hT q _ _ _ (fun k hk => ?_) e 0 (by omega) hq rfl
    refine Rn.aload_n dX8_step_138 rfl rfl ?_
    refine Rn.iconst (v := (-1)) dX8_step_139 rfl ?_
    refine Rn.putI dX8_step_140 fp_X8_43_7 (by first | rfl | exact gC0 (by assumption) | exact gL0 (by assumption)) rfl ?_
    refine Rn.hpp _ (TS_5 _ _ _ _ _ _ _) ?_
    by_cases z : k = 0
    · subst z
      refine st_d G d I hT q _ _ (fun k hd => ?_) e 0 (by omega) hq rfl
      have hd2 : dx c e q ≤ e := rn_le hq
      have hk : lx c e q = q := hk
      refine st_e G d I q (q + k) _ _ _ _ (by omega) (by omega) ⟨rfl, ?_⟩
      have e1 : wv c e q = nI 0 := by rw [wv, hk, Nat.sub_self]; rfl
      have e2 : tn c e q = tnK c q k := by rw [tn, if_pos hk, hd, Nat.add_sub_cancel_left]
      have e3 : bh c e q = if q < q + k then q + k else q + 1 := by rw [bh, hk, if_neg (by omega), hd]
      rw [TQ5, e1, e2, e3]
    · have hl2 : lx c e q ≤ e := rn_le hq
      have hw0 : wvK c q k ≠ 0 := by
        by_cases z5 : k ≤ 5
        · rw [show wvK c q k = nI (hw c q k) from if_pos z5]
          have := hw_pos (c := c) (q := q) (k := k) (fun i a b => rn_all (e := e) (p := q) a (by show i < lx c e q; omega)) (by omega)
          have h8 := hw_b c q z5
          exact fun w => absurd ((nI_z (by omega)).mp w) (by omega)
        · rw [show wvK c q k = -1 from if_neg z5]
          decide
      refine Rn.aload_n dX8_step_143 rfl rfl ?_
      refine Rn.getI dX8_step_144 fd_X8_40_7 (by first | rfl | exact gC0 (by assumption) | exact gL0 (by assumption)) rfl ?_
      refine Rn.topI (wvK c q k) (by rfl) ?_
      refine Rn.if_ne (tgt := 222) dX8_step_147 (by decide) (fun h8 => ?_) (fun h8 => ?_)
      · refine st_e G d I q (q + k) _ _ _ _ (by omega) (by omega) ⟨rfl, ?_⟩
        have e1 : wv c e q = wvK c q k := by rw [wv, hk, Nat.add_sub_cancel_left]
        have e2 : tn c e q = -1 := by rw [tn, if_neg (by omega)]
        have e3 : bh c e q = if q < q + k then q + k else q + 1 := by rw [bh, hk, if_pos (by omega), if_pos (by omega)]
        rw [TQ5, e1, e2, e3]
      · exact absurd h8 hw0
  refine Rn.aload_n dX8_step_47 rfl rfl ?_
  refine Rn.iload_n dX8_step_48 rfl rfl ?_
  refine Rn.iload_n dX8_step_49 rfl rfl ?_
  refine Rn.icmp_geN dX8_step_50 62 (fun h4 => ?_) (fun h4 => ?_)
  · refine Rn.iconst (v := (-1)) dX8_step_62 rfl ?_
    exact Rn.topI _ (show (-1 : Int32) = fs c e q from (if_neg (by omega)).symm) kk
  · have hc := hT.2.2 q (by omega)
    refine Rn.aload_n dX8_step_53 rfl rfl ?_
    refine Rn.getR dX8_step_54 fd_X8_9_7 (by first | rfl | exact gC0 (by assumption) | exact gL0 (by assumption)) rfl ?_
    refine Rn.iload_n dX8_step_57 rfl rfl ?_
    refine Rn.ialdN dX8_step_58 (by first | rfl | exact gC1 (by assumption) | exact gC2 (by assumption) | exact gC3 (by assumption) | exact gL1 (by assumption) | exact gL2 (by assumption) | exact gL3 (by assumption) | exact gL4 (by assumption) | exact gL5 (by assumption) | exact gL6 (by assumption)) ?_
    refine Rn.topI (nI (c q)) (by exact hc.1) ?_
    refine Rn.goto 63 dX8_step_59 (by decide) ?_
    exact Rn.topI _ (show nI (c q) = fs c e q from (if_pos h4).symm) kk
end Stp
