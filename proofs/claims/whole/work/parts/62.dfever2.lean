theorem cmp_eq {a b : Nat} (ha : a < 2 ^ 63) (hb : b < 2 ^ 63) : lg_cmp (lN a) (lN b) = 0 ↔ a = b := by
  rw [lg_cmp_eq, pk_lEQ ha hb]
theorem gcd_step (a b : Nat) : Nat.gcd b (a % b) = Nat.gcd a b := by
  rw [Nat.gcd_comm b (a % b), ← Nat.gcd_rec, Nat.gcd_comm]
theorem mod_half {r b k : Nat} (hr : 0 < r) (h : r < b) (hb : b < 2 ^ (k + 1)) : b % r < 2 ^ k := by
  have p : 2 ^ (k + 1) = 2 ^ k + 2 ^ k := by rw [Nat.pow_succ]; omega
  have m := Nat.mod_lt b hr
  by_cases q : r ≤ 2 ^ k
  · omega
  · have : b % r = b - r := by rw [Nat.mod_eq_sub_mod (by omega), Nat.mod_eq_of_lt (by omega)]
    omega
section DFEVER2
variable {G : Gt} {d : Nat} {h : Hp} {T : Tn} {t : Nat}
theorem sp_commonDivisor {a b : Nat} {K : Int64 → Hp → Prop} (ha : a < 2 ^ 62) (hb : b < 2 ^ 40) (k : K (lN (max (Nat.gcd a b) 1)) h) : Call G (d + 1) mX6_commonDivisor [.long (lN a), .long (lN b)] h (pJ K) := by
  refine Call.of (M := mX6_commonDivisor) (n := 7) (by decide +kernel) rfl ?_
  show WP _ _ _ _ 0 [some (.long (lN a)), none, some (.long (lN b)), none, none, none, none, none, none, none, none] [] _
  have done : ∀ u x, x < 2 ^ 62 → x = Nat.gcd a b → ∀ L9 L10, WP G (d + 1) mX6_commonDivisor (pJ K) 45 [some (.long (lN a)), none, some (.long (lN b)), none, some (.long (lN x)), none, some (.long (lN 0)), none, some (.int (nI u)), L9, L10] [] h := by
    intro u x hx e L9 L10
    refine wp_lload (pc := 45) (i := 4) dX6_commonDivisor_45 rfl ?_
    refine wp_lconst (pc := 47) (v := lN 1) dX6_commonDivisor_47 rfl ?_
    rotate_left
    refine wp_maxL (pc := 48) (a := x) (b := 1) lk_X6_327 dX6_commonDivisor_48 (by omega) (by decide) rfl ?_
    refine wp_lret (pc := 51) dX6_commonDivisor_51 rfl ?_
    rotate_left
    rw [← e] at k; exact k
  have ext : ∀ u x, u < 1000 → x < 2 ^ 62 → x = Nat.gcd a b → ∀ L9 L10, WP G (d + 1) mX6_commonDivisor (pJ K) 9 [some (.long (lN a)), none, some (.long (lN b)), none, some (.long (lN x)), none, some (.long (lN 0)), none, some (.int (nI u)), L9, L10] [] h := by
    intro u x hu hx e L9 L10
    refine wp_iload (pc := 9) (i := 8) dX6_commonDivisor_9 rfl ?_
    refine wp_sipush (pc := 11) (v := nI 1000) dX6_commonDivisor_11 rfl ?_
    first | (with_reducible show WP _ _ _ _ _ _ (Value.int (nI _) :: Value.int (nI _) :: _) _; refine wp_icmp_geN (pc := 14) (tgt := 45) dX6_commonDivisor_14 (by decide) (by omega) (by omega) (fun c14 => ?_) (fun c14 => ?_)) | refine wp_icmp_ge (pc := 14) (tgt := 45) dX6_commonDivisor_14 (by decide) (fun c14 => ?_) (fun c14 => ?_)
    rotate_left
    refine wp_lload (pc := 17) (i := 6) dX6_commonDivisor_17 rfl ?_
    refine wp_lconst (pc := 19) (v := lN 0) dX6_commonDivisor_19 rfl ?_
    refine wp_lcmp (pc := 20) dX6_commonDivisor_20 ?_
    rotate_left
    · exact absurd c14 (by omega)
    refine wp_if_eq (pc := 21) (tgt := 45) dX6_commonDivisor_21 (by decide) (fun c21 => ?_) (fun c21 => ?_)
    · exact done u x hx e L9 L10
    · exact absurd ((cmp_eq (by decide) (by decide)).mpr rfl) c21
  have stp : ∀ u x y, u < 1000 → x < 2 ^ 62 → y < 2 ^ 62 → 0 < y → (∀ L9 L10, WP G (d + 1) mX6_commonDivisor (pJ K) 9 [some (.long (lN a)), none, some (.long (lN b)), none, some (.long (lN y)), none, some (.long (lN (x % y))), none, some (.int (nI (u + 1))), L9, L10] [] h) → ∀ L9 L10, WP G (d + 1) mX6_commonDivisor (pJ K) 9 [some (.long (lN a)), none, some (.long (lN b)), none, some (.long (lN x)), none, some (.long (lN y)), none, some (.int (nI u)), L9, L10] [] h := by
    intro u x y hu hx hy h0 kk L9 L10
    refine wp_iload (pc := 9) (i := 8) dX6_commonDivisor_9 rfl ?_
    refine wp_sipush (pc := 11) (v := nI 1000) dX6_commonDivisor_11 rfl ?_
    first | (with_reducible show WP _ _ _ _ _ _ (Value.int (nI _) :: Value.int (nI _) :: _) _; refine wp_icmp_geN (pc := 14) (tgt := 45) dX6_commonDivisor_14 (by decide) (by omega) (by omega) (fun c14 => ?_) (fun c14 => ?_)) | refine wp_icmp_ge (pc := 14) (tgt := 45) dX6_commonDivisor_14 (by decide) (fun c14 => ?_) (fun c14 => ?_)
    rotate_left
    refine wp_lload (pc := 17) (i := 6) dX6_commonDivisor_17 rfl ?_
    refine wp_lconst (pc := 19) (v := lN 0) dX6_commonDivisor_19 rfl ?_
    refine wp_lcmp (pc := 20) dX6_commonDivisor_20 ?_
    rotate_left
    · exact absurd c14 (by omega)
    refine wp_if_eq (pc := 21) (tgt := 45) dX6_commonDivisor_21 (by decide) (fun c21 => ?_) (fun c21 => ?_)
    · exact absurd ((cmp_eq (by omega) (by decide)).mp c21) (by omega)
    · refine wp_lload (pc := 24) (i := 4) dX6_commonDivisor_24 rfl ?_
      refine wp_lload (pc := 26) (i := 6) dX6_commonDivisor_26 rfl ?_
      refine wp_lremN (pc := 28) dX6_commonDivisor_28 (by omega) (by omega) (by omega) ?_
      refine wp_lstore (pc := 29) (i := 9) dX6_commonDivisor_29 rfl (by decide) rfl ?_
      dsimp only [List.set_cons_zero, List.set_cons_succ]
      refine wp_lload (pc := 31) (i := 6) dX6_commonDivisor_31 rfl ?_
      refine wp_lstore (pc := 33) (i := 4) dX6_commonDivisor_33 rfl (by decide) rfl ?_
      dsimp only [List.set_cons_zero, List.set_cons_succ]
      refine wp_lload (pc := 35) (i := 9) dX6_commonDivisor_35 rfl ?_
      refine wp_lstore (pc := 37) (i := 6) dX6_commonDivisor_37 rfl (by decide) rfl ?_
      dsimp only [List.set_cons_zero, List.set_cons_succ]
      first | refine wp_iincN (pc := 39) (i := 8) (n := 1) dX6_commonDivisor_39 rfl rfl (by decide) rfl ?_ | refine wp_iinc (pc := 39) (i := 8) dX6_commonDivisor_39 rfl rfl rfl (by decide) rfl ?_
      dsimp only [List.set_cons_zero, List.set_cons_succ]
      refine wp_goto (pc := 42) (tgt := 9) dX6_commonDivisor_42 (by decide) ?_
      rotate_left
      exact kk _ _
  have loop : ∀ n u x y, y < 2 ^ n → n ≤ 40 → u + 2 * n ≤ 900 → x < 2 ^ 62 → Nat.gcd x y = Nat.gcd a b → ∀ L9 L10, WP G (d + 1) mX6_commonDivisor (pJ K) 9 [some (.long (lN a)), none, some (.long (lN b)), none, some (.long (lN x)), none, some (.long (lN y)), none, some (.int (nI u)), L9, L10] [] h := by
    intro n
    induction n with
    | zero =>
      intro u x y hy _ hu hx e
      have : y = 0 := by omega
      subst this
      exact ext u x (by omega) hx (by rw [← e, Nat.gcd_zero_right])
    | succ n ih =>
      intro u x y hy hn hu hx e
      have hy2 : y < 2 ^ 62 := Nat.lt_of_lt_of_le hy (Nat.pow_le_pow_right (by decide) (by omega))
      by_cases z : y = 0
      · subst z
        exact ext u x (by omega) hx (by rw [← e, Nat.gcd_zero_right])
      · refine stp u x y (by omega) hx hy2 (by omega) ?_
        have m := Nat.mod_lt x (show 0 < y by omega)
        have e1 := (gcd_step x y).trans e
        by_cases z1 : x % y = 0
        · rw [z1] at e1 ⊢
          exact ext (u + 1) y (by omega) hy2 (by rw [← e1, Nat.gcd_zero_right])
        · refine stp (u + 1) y (x % y) (by omega) hy2 (by omega) (by omega) ?_
          exact ih (u + 1 + 1) (x % y) (y % (x % y)) (mod_half (by omega) m hy) (by omega) (by omega) (by omega) ((gcd_step y (x % y)).trans e1)
  refine wp_lload_n (pc := 0) (i := 0) dX6_commonDivisor_0 rfl rfl ?_
  refine wp_lstore (pc := 1) (i := 4) dX6_commonDivisor_1 rfl (by decide) rfl ?_
  dsimp only [List.set_cons_zero, List.set_cons_succ]
  refine wp_lload_n (pc := 3) (i := 2) dX6_commonDivisor_3 rfl rfl ?_
  refine wp_lstore (pc := 4) (i := 6) dX6_commonDivisor_4 rfl (by decide) rfl ?_
  dsimp only [List.set_cons_zero, List.set_cons_succ]
  refine wp_iconst (pc := 6) (v := nI 0) dX6_commonDivisor_6 rfl ?_
  refine wp_istore (pc := 7) (i := 8) dX6_commonDivisor_7 rfl (by decide) rfl ?_
  dsimp only [List.set_cons_zero, List.set_cons_succ]
  rotate_left
  exact loop 40 0 a b hb (by omega) (by omega) ha rfl _ _
theorem sd_fever {c x w : Int32} {K : Int64 → Hp → Prop} (hW : TW h 27 T) (hO : OKT T) (k : ∀ h', SC h h' → K (fFever T c x w) h') : Call G (d + 3) mX6_fever [.ref 0, .int c, .int x, .int w] h (pJ K) := by
  obtain ⟨o0, o1, o2, o3, o4, o5, o6, o7, o8⟩ := id hO
  refine Call.of (M := mX6_fever) (n := 7) (by decide +kernel) rfl ?_
  show WP _ _ _ _ 0 [some (.ref 0), some (.int c), some (.int x), some (.int w), none, none, none, none, none, none, none] [] _
  refine wp_aload_n (pc := 0) (i := 0) dX6_fever_0 rfl rfl ?_
  refine wp_gfr (pc := 1) fk_X6_26 dX6_fever_1 rfl rfl (by decide) ?_
  refine wp_iload_n (pc := 4) (i := 1) dX6_fever_4 rfl rfl ?_
  refine wp_cV1i (pc := 5) lk_X6_174 dX6_fever_5 rfl rfl rfl (sp_hasChild isT_27 hW hO ?_)
  first | (with_reducible show WP _ _ _ _ _ _ (Value.int (bI _) :: _) _; refine wp_if_eqB (pc := 8) (tgt := 30) dX6_fever_8 (by decide) (fun c8 => ?_) (fun c8 => ?_)) | (with_reducible show WP _ _ _ _ _ _ (Value.int (nI _) :: _) _; refine wp_if_eqN (pc := 8) (tgt := 30) dX6_fever_8 (by decide) (by omega) (fun c8 => ?_) (fun c8 => ?_)) | refine wp_if_eq (pc := 8) (tgt := 30) dX6_fever_8 (by decide) (fun c8 => ?_) (fun c8 => ?_)
  refine wp_ldc2 (pc := 30) kn_X6_271 dX6_fever_30 ?_
  refine wp_lret (pc := 33) dX6_fever_33 rfl ?_
  rotate_left
  refine wp_iload_n (pc := 11) (i := 2) dX6_fever_11 rfl rfl ?_
  refine wp_iconst (pc := 12) (v := nI 0) dX6_fever_12 rfl ?_
  refine wp_bipush (pc := 13) (v := nI 10) dX6_fever_13 rfl ?_
  refine wp_cS3i (pc := 15) lk_X6_74 dX6_fever_15 rfl (sp_btw (by decide) (by decide) ?_)
  first | (with_reducible show WP _ _ _ _ _ _ (Value.int (bI _) :: _) _; refine wp_if_eqB (pc := 18) (tgt := 30) dX6_fever_18 (by decide) (fun c18 => ?_) (fun c18 => ?_)) | (with_reducible show WP _ _ _ _ _ _ (Value.int (nI _) :: _) _; refine wp_if_eqN (pc := 18) (tgt := 30) dX6_fever_18 (by decide) (by omega) (fun c18 => ?_) (fun c18 => ?_)) | refine wp_if_eq (pc := 18) (tgt := 30) dX6_fever_18 (by decide) (fun c18 => ?_) (fun c18 => ?_)
  refine wp_ldc2 (pc := 30) kn_X6_271 dX6_fever_30 ?_
  refine wp_lret (pc := 33) dX6_fever_33 rfl ?_
  rotate_left
  refine wp_iload_n (pc := 21) (i := 3) dX6_fever_21 rfl rfl ?_
  refine wp_iconst (pc := 22) (v := nI 0) dX6_fever_22 rfl ?_
  refine wp_iconst (pc := 23) (v := nI 1) dX6_fever_23 rfl ?_
  refine wp_cS3i (pc := 24) lk_X6_74 dX6_fever_24 rfl (sp_btw (by decide) (by decide) ?_)
  first | (with_reducible show WP _ _ _ _ _ _ (Value.int (bI _) :: _) _; refine wp_if_neB (pc := 27) (tgt := 34) dX6_fever_27 (by decide) (fun c27 => ?_) (fun c27 => ?_)) | (with_reducible show WP _ _ _ _ _ _ (Value.int (nI _) :: _) _; refine wp_if_neN (pc := 27) (tgt := 34) dX6_fever_27 (by decide) (by omega) (fun c27 => ?_) (fun c27 => ?_)) | refine wp_if_ne (pc := 27) (tgt := 34) dX6_fever_27 (by decide) (fun c27 => ?_) (fun c27 => ?_)
  rotate_left
  refine wp_ldc2 (pc := 30) kn_X6_271 dX6_fever_30 ?_
  refine wp_lret (pc := 33) dX6_fever_33 rfl ?_
  rotate_left
  · rw [fFever, c8] at k; exact k h (SC.rf h)
  · rw [fFever, c8, c18] at k; exact k h (SC.rf h)
  rotate_left
  · rw [fFever, c8, c18, c27] at k; exact k h (SC.rf h)
  rw [fFever, c8, c18, c27] at k
  obtain ⟨c, hc, rfl⟩ := inN_t (by omega) c8
  obtain ⟨x, -, hx, rfl⟩ := btw_t (by decide) c18
  obtain ⟨w, -, hw, rfl⟩ := btw_t (by decide) c27
  rw [nI_clamp (show c < 2 ^ 31 by omega), nI_clamp (show x < 2 ^ 31 by omega), nI_clamp (show w < 2 ^ 31 by omega)] at k
  have hg : gu T 0 (T 1) c < 64 := Nat.lt_of_lt_of_le (gu_lt T 0 c (T 1)) (Nat.pow_le_pow_right (by decide) o1)
  generalize hgs : gu T 0 (T 1) c = gs at *
  have hp6 : pop gs ≤ 6 := (sbn_pop hg hg (by have : ∀ g, g < 64 → sbn g g 6 = true := by decide +kernel
                                              exact this gs hg)).2
  have hten : 10 ^ pop gs ≤ 10 ^ 6 := Nat.pow_le_pow_right (by decide) hp6
  have htp : 0 < 10 ^ pop gs := Nat.pow_pos (by decide)
  have hsm : ∀ i, i ≤ 64 → smU (feF T x gs) i ≤ i * 10 ^ 6 := fun i hi => smU_le i (fun j hj => feF_le hx hg (by omega))
  have loop : ∀ m i h1, i + m = 64 → TW h1 27 T → SC h h1 → ∀ L10, WP G (d + 3) mX6_fever (pJ K) 62 [some (.ref 0), some (.int (nI c)), some (.int (nI x)), some (.int (nI w)), some (.int (nI gs)), some (.long (lN (smU (feF T x gs) i))), none, some (.long (lN (10 ^ pop gs))), none, some (.int (nI i)), L10] [] h1 := by
    intro m
    induction m with
    | zero =>
      intro i h1 him hW1 hs1 L10
      have hi : i = 64 := by omega
      subst hi
      have := hsm 64 (by omega)
      have hg0 : 0 < Nat.gcd (smU (feF T x gs) 64) (10 ^ pop gs) := Nat.gcd_pos_of_pos_right _ htp
      have hg1 : Nat.gcd (smU (feF T x gs) 64) (10 ^ pop gs) ≤ 10 ^ pop gs := Nat.le_of_dvd htp (Nat.gcd_dvd_right _ _)
      have kk := k h1 hs1
      rw [feQ, hgs] at kk
      refine wp_iload (pc := 62) (i := 9) dX6_fever_62 rfl ?_
      refine wp_bipush (pc := 64) (v := nI 64) dX6_fever_64 rfl ?_
      first | (with_reducible show WP _ _ _ _ _ _ (Value.int (nI _) :: Value.int (nI _) :: _) _; refine wp_icmp_geN (pc := 66) (tgt := 131) dX6_fever_66 (by decide) (by omega) (by omega) (fun c66 => ?_) (fun c66 => ?_)) | refine wp_icmp_ge (pc := 66) (tgt := 131) dX6_fever_66 (by decide) (fun c66 => ?_) (fun c66 => ?_)
      refine wp_lload (pc := 131) (i := 5) dX6_fever_131 rfl ?_
      refine wp_lload (pc := 133) (i := 7) dX6_fever_133 rfl ?_
      refine wp_cS2j (pc := 135) lk_X6_280 dX6_fever_135 rfl (sp_commonDivisor (by omega) (by omega) ?_)
      rotate_left
      rotate_left
      · rw [Nat.max_eq_left hg0]
        refine wp_lstore (pc := 138) (i := 9) dX6_fever_138 rfl (by decide) rfl ?_
        dsimp only [List.set_cons_zero, List.set_cons_succ]
        refine wp_iload_n (pc := 140) (i := 3) dX6_fever_140 rfl rfl ?_
        first | (with_reducible show WP _ _ _ _ _ _ (Value.int (bI _) :: _) _; refine wp_if_neB (pc := 141) (tgt := 149) dX6_fever_141 (by decide) (fun c141 => ?_) (fun c141 => ?_)) | (with_reducible show WP _ _ _ _ _ _ (Value.int (nI _) :: _) _; refine wp_if_neN (pc := 141) (tgt := 149) dX6_fever_141 (by decide) (by omega) (fun c141 => ?_) (fun c141 => ?_)) | refine wp_if_ne (pc := 141) (tgt := 149) dX6_fever_141 (by decide) (fun c141 => ?_) (fun c141 => ?_)
        refine wp_lload (pc := 149) (i := 7) dX6_fever_149 rfl ?_
        refine wp_lload (pc := 151) (i := 9) dX6_fever_151 rfl ?_
        refine wp_ldivN (pc := 153) dX6_fever_153 (by omega) (by omega) (by omega) ?_
        refine wp_lret (pc := 154) dX6_fever_154 rfl ?_
        rotate_left
        refine wp_lload (pc := 144) (i := 5) dX6_fever_144 rfl ?_
        refine wp_goto (pc := 146) (tgt := 151) dX6_fever_146 (by decide) ?_
        refine wp_lload (pc := 151) (i := 9) dX6_fever_151 rfl ?_
        refine wp_ldivN (pc := 153) dX6_fever_153 (by omega) (by omega) (by omega) ?_
        refine wp_lret (pc := 154) dX6_fever_154 rfl ?_
        rotate_left
        · rw [if_neg c141] at kk; exact kk
        · rw [if_pos c141] at kk; exact kk
      · exact absurd him (by omega)
    | succ m ih =>
      intro i h1 him hW1 hs1 L10
      have b6 := sbn_6 hg (show i < 64 by omega)
      refine wp_iload (pc := 62) (i := 9) dX6_fever_62 rfl ?_
      refine wp_bipush (pc := 64) (v := nI 64) dX6_fever_64 rfl ?_
      first | (with_reducible show WP _ _ _ _ _ _ (Value.int (nI _) :: Value.int (nI _) :: _) _; refine wp_icmp_geN (pc := 66) (tgt := 131) dX6_fever_66 (by decide) (by omega) (by omega) (fun c66 => ?_) (fun c66 => ?_)) | refine wp_icmp_ge (pc := 66) (tgt := 131) dX6_fever_66 (by decide) (fun c66 => ?_) (fun c66 => ?_)
      rotate_left
      refine wp_iload (pc := 69) (i := 9) dX6_fever_69 rfl ?_
      refine wp_iload (pc := 71) (i := 4) dX6_fever_71 rfl ?_
      refine wp_iconst (pc := 73) (v := kM1) dX6_fever_73 rfl ?_
      first | (with_reducible show WP _ _ _ _ _ _ (Value.int (nI _) :: Value.int (nI _) :: _) _; refine wp_ixorN (pc := 74) dX6_fever_74 ?_) | refine wp_ixor (pc := 74) dX6_fever_74 ?_
      rotate_left
      · exact absurd him (by omega)
      refine wp_iand (pc := 75) dX6_fever_75 ?_
      refine wp_if_ne (pc := 76) (tgt := 125) dX6_fever_76 (by decide) (fun c76 => ?_) (fun c76 => ?_)
      · have e : feF T x gs i = 0 := by
          rw [feF, b6, decide_eq_false c76]; rfl
        first | refine wp_iincN (pc := 125) (i := 9) (n := 1) dX6_fever_125 rfl rfl (by decide) rfl ?_ | refine wp_iinc (pc := 125) (i := 9) dX6_fever_125 rfl rfl rfl (by decide) rfl ?_
        dsimp only [List.set_cons_zero, List.set_cons_succ]
        refine wp_goto (pc := 128) (tgt := 62) dX6_fever_128 (by decide) ?_
        rotate_left
        have := ih (i + 1) h1 (by omega) hW1 hs1 L10
        rw [show smU (feF T x gs) (i + 1) = smU (feF T x gs) i + feF T x gs i from rfl, e] at this
        exact this
      · rw [decide_eq_true c76] at b6
        obtain ⟨p1, p2⟩ := sbn_pop hg (by omega) b6
        have hpe : feF T x gs i = if feP T i then (10 - x) ^ pop i * x ^ (pop gs - pop i) else 0 := by rw [feF, b6, Bool.true_and]
        refine wp_aload_n (pc := 79) (i := 0) dX6_fever_79 rfl rfl ?_
        refine wp_gfr (pc := 80) fk_X6_26 dX6_fever_80 rfl rfl (by decide) ?_
        refine wp_iload (pc := 83) (i := 9) dX6_fever_83 rfl ?_
        refine wp_cV1i (pc := 85) lk_X6_277 dX6_fever_85 rfl rfl rfl (sp_hasPeaceful isT_27 hW1 hO (by omega) ?_)
        rotate_left
        refine wp_if_eqB (pc := 88) (tgt := 125) dX6_fever_88 (by decide) (fun c88 => ?_) (fun c88 => ?_)
        · have e : feF T x gs i = 0 := by rw [hpe, feP, c88]; rfl
          first | refine wp_iincN (pc := 125) (i := 9) (n := 1) dX6_fever_125 rfl rfl (by decide) rfl ?_ | refine wp_iinc (pc := 125) (i := 9) dX6_fever_125 rfl rfl rfl (by decide) rfl ?_
          dsimp only [List.set_cons_zero, List.set_cons_succ]
          refine wp_goto (pc := 128) (tgt := 62) dX6_fever_128 (by decide) ?_
          rotate_left
          have := ih (i + 1) h1 (by omega) hW1 hs1 L10
          rw [show smU (feF T x gs) (i + 1) = smU (feF T x gs) i + feF T x gs i from rfl, e] at this
          exact this
        · have e : feF T x gs i = (10 - x) ^ pop i * x ^ (pop gs - pop i) := by rw [hpe, feP, c88]; rfl
          refine wp_iload (pc := 91) (i := 9) dX6_fever_91 rfl ?_
          refine wp_cS1i (pc := 93) lk_X6_236 dX6_fever_93 rfl (sp_bitCount ?_)
          rotate_left
          rw [bc_pop (show i < 64 by omega)]
          refine wp_istore (pc := 96) (i := 10) dX6_fever_96 rfl (by decide) rfl ?_
          dsimp only [List.set_cons_zero, List.set_cons_succ]
          refine wp_lload (pc := 98) (i := 5) dX6_fever_98 rfl ?_
          refine wp_bipush (pc := 100) (v := nI 10) dX6_fever_100 rfl ?_
          refine wp_iload_n (pc := 102) (i := 2) dX6_fever_102 rfl rfl ?_
          first | (with_reducible show WP _ _ _ _ _ _ (Value.int (nI _) :: Value.int (nI _) :: _) _; refine wp_isubN (pc := 103) dX6_fever_103 (by omega) ?_) | refine wp_isub (pc := 103) dX6_fever_103 ?_
          refine wp_iload (pc := 104) (i := 10) dX6_fever_104 rfl ?_
          refine wp_cS2j (pc := 106) lk_X6_273 dX6_fever_106 rfl (sp_power (by omega) (by omega) ?_)
          refine wp_iload_n (pc := 109) (i := 2) dX6_fever_109 rfl rfl ?_
          refine wp_iload (pc := 110) (i := 4) dX6_fever_110 rfl ?_
          refine wp_cS1i (pc := 112) lk_X6_236 dX6_fever_112 rfl (sp_bitCount ?_)
          rotate_left
          rw [bc_pop hg]
          refine wp_iload (pc := 115) (i := 10) dX6_fever_115 rfl ?_
          first | (with_reducible show WP _ _ _ _ _ _ (Value.int (nI _) :: Value.int (nI _) :: _) _; refine wp_isubN (pc := 117) dX6_fever_117 (by omega) ?_) | refine wp_isub (pc := 117) dX6_fever_117 ?_
          refine wp_cS2j (pc := 118) lk_X6_273 dX6_fever_118 rfl (sp_power (by omega) (by omega) ?_)
          refine wp_lmulN (pc := 121) dX6_fever_121 ?_
          refine wp_laddN (pc := 122) dX6_fever_122 ?_
          refine wp_lstore (pc := 123) (i := 5) dX6_fever_123 rfl (by decide) rfl ?_
          dsimp only [List.set_cons_zero, List.set_cons_succ]
          first | refine wp_iincN (pc := 125) (i := 9) (n := 1) dX6_fever_125 rfl rfl (by decide) rfl ?_ | refine wp_iinc (pc := 125) (i := 9) dX6_fever_125 rfl rfl rfl (by decide) rfl ?_
          dsimp only [List.set_cons_zero, List.set_cons_succ]
          refine wp_goto (pc := 128) (tgt := 62) dX6_fever_128 (by decide) ?_
          rotate_left
          have := ih (i + 1) h1 (by omega) hW1 hs1 (some (.int (nI (pop i))))
          rw [show smU (feF T x gs) (i + 1) = smU (feF T x gs) i + feF T x gs i from rfl, e] at this
          exact this
  refine wp_aload_n (pc := 34) (i := 0) dX6_fever_34 rfl rfl ?_
  refine wp_gfr (pc := 35) fk_X6_26 dX6_fever_35 rfl rfl (by decide) ?_
  refine wp_iload_n (pc := 38) (i := 1) dX6_fever_38 rfl rfl ?_
  refine wp_cV1i (pc := 39) lk_X6_209 dX6_fever_39 rfl rfl rfl (sp_guestsOf isT_27 hW hO hc (fun h1 s1 => ?_))
  rotate_left
  rw [hgs]
  refine wp_istore (pc := 42) (i := 4) dX6_fever_42 rfl (by decide) rfl ?_
  dsimp only [List.set_cons_zero, List.set_cons_succ]
  refine wp_lconst (pc := 44) (v := lN 0) dX6_fever_44 rfl ?_
  refine wp_lstore (pc := 45) (i := 5) dX6_fever_45 rfl (by decide) rfl ?_
  dsimp only [List.set_cons_zero, List.set_cons_succ]
  refine wp_bipush (pc := 47) (v := nI 10) dX6_fever_47 rfl ?_
  refine wp_iload (pc := 49) (i := 4) dX6_fever_49 rfl ?_
  refine wp_cS1i (pc := 51) lk_X6_236 dX6_fever_51 rfl (sp_bitCount ?_)
  rotate_left
  rw [bc_pop hg]
  refine wp_cS2j (pc := 54) lk_X6_273 dX6_fever_54 rfl (sp_power (by omega) hp6 ?_)
  refine wp_lstore (pc := 57) (i := 7) dX6_fever_57 rfl (by decide) rfl ?_
  dsimp only [List.set_cons_zero, List.set_cons_succ]
  refine wp_iconst (pc := 59) (v := nI 0) dX6_fever_59 rfl ?_
  refine wp_istore (pc := 60) (i := 9) dX6_fever_60 rfl (by decide) rfl ?_
  dsimp only [List.set_cons_zero, List.set_cons_succ]
  rotate_left
  exact loop 64 0 h1 (by omega) (s1.tw hW) (SC.st s1) none
end DFEVER2
