/-! days drawn by a seed -/
def nxs (s : Nat) : Nat := s * 16807 % 2147483647
def drI (V : Tn) (s : Nat) : Tn := if s % 4 = 0 then up V (44 + s % V 1) (s % 5) else V
def dsd (s : Nat) : Nat → Nat
  | 0 => s
  | n + 1 => nxs (dsd s n)
def drT (T : Tn) (s : Nat) : Nat → Tn
  | 0 => T
  | n + 1 => passT (drI (drT T s n) (dsd s (n + 1)))
def fDrawn (T : Tn) (n s w : Int32) : Int32 := if T 1 = 0 then kSTATE else if btw n 0 60 && btw s 1 999999 && btw w 0 1 then nI (smU (fun c => drT T s.toNatClampNeg n.toNatClampNeg ((if w = nI 0 then 5 else 10) + c)) (T 0)) else kBAD
theorem okt_drI {V : Tn} {s : Nat} (hO : OKT V) (h0 : 0 < V 1) : OKT (drI V s) ∧ ∀ j, (j < 44 ∨ 50 ≤ j) → drI V s j = V j := by
  have hm := Nat.mod_lt s h0
  have o1 := hO.2.1
  unfold drI
  split
  · exact ⟨okt_ill hO hm (by have := Nat.mod_lt s (show 0 < 5 by decide); omega), fun j hj => up_ne (by omega)⟩
  · exact ⟨hO, fun _ _ => rfl⟩
theorem okt_drT {T : Tn} (hO : OKT T) (h0 : 0 < T 1) (s : Nat) : ∀ n, T 4 + n ≤ 1200 → OKT (drT T s n) ∧ drT T s n 4 = T 4 + n ∧ drT T s n 0 = T 0 ∧ drT T s n 1 = T 1
  | 0, _ => ⟨hO, rfl, rfl, rfl⟩
  | n + 1, hn => by
    obtain ⟨a, b, c, e⟩ := okt_drT hO h0 s n (by omega)
    obtain ⟨p, q⟩ := okt_drI (s := dsd s (n + 1)) a (by omega)
    have q1 := q 1 (by omega)
    have q4 := q 4 (by omega)
    have q0 := q 0 (by omega)
    obtain ⟨r1, r2, r3⟩ := itP_keep p (by omega) 1 (by omega)
    refine ⟨r1, ?_, ?_, ?_⟩
    · have : drT T s (n + 1) 4 = drI (drT T s n) (dsd s (n + 1)) 4 + 1 := r2
      omega
    · have : drT T s (n + 1) 0 = drI (drT T s n) (dsd s (n + 1)) 0 := r3 0 (by omega)
      omega
    · have : drT T s (n + 1) 1 = drI (drT T s n) (dsd s (n + 1)) 1 := r3 1 (by omega)
      omega
theorem dsd_lt {s : Nat} (hs : s < 2147483647) : ∀ n, dsd s n < 2147483647
  | 0 => hs
  | n + 1 => Nat.mod_lt _ (by decide)
theorem cmp_ne {a b : Nat} (ha : a < 2 ^ 63) (hb : b < 2 ^ 63) : (¬ lg_cmp (lN a) (lN b) = 0) ↔ ¬ a = b := by
  rw [lg_cmp_eq, pk_lEQ ha hb]
section DDRAWN
variable {G : Gt} {d : Nat} {h : Hp} {T : Tn} {t : Nat}
theorem sp_fallIll {s : Nat} {K : Hp → Prop} (hT : isT t) (hW : TW h t T) (hO : OKT T) (h0 : 0 < T 1) (hs' : s < 2147483647) (k : ∀ h', TW h' t (up T (44 + s % T 1) (s % 5)) → Fr h h' t → K h') : Call G d mX5_fallIll [.ref t, .long (lN s)] h (pV K) := by
  obtain ⟨ht, s0, s1, s2, s3, s4, s5, s6, s7, s8, s9, s10, s11⟩ := id hT
  obtain ⟨e0, e1, e2, e3, e4, e5, e6, e7, e8, e9, e10, e11, e12, e13⟩ := id hW
  obtain ⟨o0, o1, o2, o3, o4, o5, o6, o7, o8⟩ := id hO
  have hm := Nat.mod_lt s h0
  have h5 := Nat.mod_lt s (show 0 < 5 by decide)
  refine Call.of (M := mX5_fallIll) (n := 0) (by decide +kernel) rfl ?_
  show WP _ _ _ _ 0 [some (.ref t), some (.long (lN s)), none] [] _
  refine wp_aload_n (pc := 0) (i := 0) dX5_fallIll_0 rfl rfl ?_
  refine wp_gfv (pc := 1) fk_X5_49 dX5_fallIll_1 s0 rfl (by first | with_reducible assumption | with_reducible exact hs_same _ _ _ _ | rfl) ?_
  first | (with_reducible show WP _ _ _ _ _ _ (Value.int (nI _) :: _) _; refine wp_if_leN (pc := 4) (tgt := 26) dX5_fallIll_4 (by decide) (by omega) (fun c4 => ?_) (fun c4 => ?_)) | refine wp_if_le (pc := 4) (tgt := 26) dX5_fallIll_4 (by decide) (fun c4 => ?_) (fun c4 => ?_)
  rotate_left
  refine wp_aload_n (pc := 7) (i := 0) dX5_fallIll_7 rfl rfl ?_
  refine wp_gfr (pc := 8) fk_X5_33 dX5_fallIll_8 s0 rfl (by omega) ?_
  refine wp_lload_n (pc := 11) (i := 1) dX5_fallIll_11 rfl rfl ?_
  refine wp_aload_n (pc := 12) (i := 0) dX5_fallIll_12 rfl rfl ?_
  refine wp_gfv (pc := 13) fk_X5_49 dX5_fallIll_13 s0 rfl (by first | with_reducible assumption | with_reducible exact hs_same _ _ _ _ | rfl) ?_
  first | (with_reducible show WP _ _ _ _ _ _ (Value.int (nI _) :: _) _; refine wp_i2lN (pc := 16) dX5_fallIll_16 (by omega) ?_) | refine wp_i2l (pc := 16) dX5_fallIll_16 rfl ?_
  refine wp_lremN (pc := 17) dX5_fallIll_17 (by omega) (by omega) (by omega) ?_
  refine wp_l2iN (pc := 18) dX5_fallIll_18 ?_
  refine wp_lload_n (pc := 19) (i := 1) dX5_fallIll_19 rfl rfl ?_
  refine wp_ldc2 (pc := 20) kn_X5_99 dX5_fallIll_20 ?_
  refine wp_lremN (pc := 23) dX5_fallIll_23 (by omega) (by omega) (by omega) ?_
  refine wp_l2iN (pc := 24) dX5_fallIll_24 ?_
  first | (with_reducible show WP _ _ _ _ _ _ (_ :: Value.int (nI _) :: _) _; refine wp_iastN (pc := 25) dX5_fallIll_25 s8 (by omega) ?_) | refine wp_iast (pc := 25) dX5_fallIll_25 s8 (by assumption) rfl ?_
  rotate_left
  · exact absurd c4 (by omega)
  refine wp_vret (pc := 26) dX5_fallIll_26 rfl ?_
  rotate_left
  exact k _ (hW.ill hO hm) (fun a ha => hs_ne (by omega))
theorem sd_drawn {n s w : Int32} {K : Int32 → Hp → Prop} (hW : TW h 27 T) (hO : OKT T) (hd : T 4 ≤ 999) (k : ∀ h', SC h h' → K (fDrawn T n s w) h') : Call G (d + 5) mX6_drawn [.ref 0, .int n, .int s, .int w] h (pI K) := by
  obtain ⟨o0, o1, o2, o3, o4, o5, o6, o7, o8⟩ := id hO
  refine Call.of (M := mX6_drawn) (n := 3) (by decide +kernel) rfl ?_
  show WP _ _ _ _ 0 [some (.ref 0), some (.int n), some (.int s), some (.int w), none, none, none] [] _
  refine wp_aload_n (pc := 0) (i := 0) dX6_drawn_0 rfl rfl ?_
  refine wp_cV0i (pc := 1) lk_X6_154 dX6_drawn_1 rfl rfl rfl (sp_noTown hW hO ?_)
  first | (with_reducible show WP _ _ _ _ _ _ (Value.int (bI _) :: _) _; refine wp_if_eqB (pc := 4) (tgt := 10) dX6_drawn_4 (by decide) (fun c4 => ?_) (fun c4 => ?_)) | (with_reducible show WP _ _ _ _ _ _ (Value.int (nI _) :: _) _; refine wp_if_eqN (pc := 4) (tgt := 10) dX6_drawn_4 (by decide) (by omega) (fun c4 => ?_) (fun c4 => ?_)) | refine wp_if_eq (pc := 4) (tgt := 10) dX6_drawn_4 (by decide) (fun c4 => ?_) (fun c4 => ?_)
  refine wp_iload_n (pc := 10) (i := 1) dX6_drawn_10 rfl rfl ?_
  refine wp_iconst (pc := 11) (v := nI 0) dX6_drawn_11 rfl ?_
  refine wp_bipush (pc := 12) (v := nI 60) dX6_drawn_12 rfl ?_
  refine wp_cS3i (pc := 14) lk_X6_74 dX6_drawn_14 rfl (sp_btw (by decide) (by decide) ?_)
  first | (with_reducible show WP _ _ _ _ _ _ (Value.int (bI _) :: _) _; refine wp_if_eqB (pc := 17) (tgt := 40) dX6_drawn_17 (by decide) (fun c17 => ?_) (fun c17 => ?_)) | (with_reducible show WP _ _ _ _ _ _ (Value.int (nI _) :: _) _; refine wp_if_eqN (pc := 17) (tgt := 40) dX6_drawn_17 (by decide) (by omega) (fun c17 => ?_) (fun c17 => ?_)) | refine wp_if_eq (pc := 17) (tgt := 40) dX6_drawn_17 (by decide) (fun c17 => ?_) (fun c17 => ?_)
  refine wp_ldc (pc := 40) kn_X6_78 dX6_drawn_40 ?_
  refine wp_iret (pc := 42) dX6_drawn_42 rfl ?_
  rotate_left
  refine wp_iload_n (pc := 20) (i := 2) dX6_drawn_20 rfl rfl ?_
  refine wp_iconst (pc := 21) (v := nI 1) dX6_drawn_21 rfl ?_
  refine wp_ldcw (pc := 22) kn_X6_284 dX6_drawn_22 ?_
  refine wp_cS3i (pc := 25) lk_X6_74 dX6_drawn_25 rfl (sp_btw (by decide) (by decide) ?_)
  first | (with_reducible show WP _ _ _ _ _ _ (Value.int (bI _) :: _) _; refine wp_if_eqB (pc := 28) (tgt := 40) dX6_drawn_28 (by decide) (fun c28 => ?_) (fun c28 => ?_)) | (with_reducible show WP _ _ _ _ _ _ (Value.int (nI _) :: _) _; refine wp_if_eqN (pc := 28) (tgt := 40) dX6_drawn_28 (by decide) (by omega) (fun c28 => ?_) (fun c28 => ?_)) | refine wp_if_eq (pc := 28) (tgt := 40) dX6_drawn_28 (by decide) (fun c28 => ?_) (fun c28 => ?_)
  refine wp_ldc (pc := 40) kn_X6_78 dX6_drawn_40 ?_
  refine wp_iret (pc := 42) dX6_drawn_42 rfl ?_
  rotate_left
  refine wp_iload_n (pc := 31) (i := 3) dX6_drawn_31 rfl rfl ?_
  refine wp_iconst (pc := 32) (v := nI 0) dX6_drawn_32 rfl ?_
  refine wp_iconst (pc := 33) (v := nI 1) dX6_drawn_33 rfl ?_
  refine wp_cS3i (pc := 34) lk_X6_74 dX6_drawn_34 rfl (sp_btw (by decide) (by decide) ?_)
  first | (with_reducible show WP _ _ _ _ _ _ (Value.int (bI _) :: _) _; refine wp_if_neB (pc := 37) (tgt := 43) dX6_drawn_37 (by decide) (fun c37 => ?_) (fun c37 => ?_)) | (with_reducible show WP _ _ _ _ _ _ (Value.int (nI _) :: _) _; refine wp_if_neN (pc := 37) (tgt := 43) dX6_drawn_37 (by decide) (by omega) (fun c37 => ?_) (fun c37 => ?_)) | refine wp_if_ne (pc := 37) (tgt := 43) dX6_drawn_37 (by decide) (fun c37 => ?_) (fun c37 => ?_)
  rotate_left
  refine wp_ldc (pc := 40) kn_X6_78 dX6_drawn_40 ?_
  refine wp_iret (pc := 42) dX6_drawn_42 rfl ?_
  rotate_left
  refine wp_ldc (pc := 7) kn_X6_153 dX6_drawn_7 ?_
  refine wp_iret (pc := 9) dX6_drawn_9 rfl ?_
  rotate_left
  · rw [fDrawn, if_neg (of_decide_eq_false c4), c17] at k; exact k h (SC.rf h)
  · rw [fDrawn, if_neg (of_decide_eq_false c4), c17, c28] at k; exact k h (SC.rf h)
  rotate_left
  · rw [fDrawn, if_neg (of_decide_eq_false c4), c17, c28, c37] at k; exact k h (SC.rf h)
  · rw [fDrawn, if_pos (of_decide_eq_true c4)] at k; exact k h (SC.rf h)
  have z := of_decide_eq_false c4
  rw [fDrawn, if_neg z, c17, c28, c37] at k
  obtain ⟨m, -, hm, rfl⟩ := btw_t (by decide) c17
  obtain ⟨s, hs1, hs2, rfl⟩ := btw_t (by decide) c28
  obtain ⟨u, -, hu, rfl⟩ := btw_t (by decide) c37
  rw [nI_clamp (show m < 2 ^ 31 by omega), nI_clamp (show s < 2 ^ 31 by omega)] at k
  have em : nI u = nI 0 ↔ u = 0 := nI_eq (by omega) (by decide)
  have loop : ∀ j i h1, i + j = m → TW h1 39 (drT T s i) → SC h h1 → WP G (d + 5) mX6_drawn (pI K) 54 [some (.ref 0), some (.int (nI m)), some (.int (nI s)), some (.int (nI u)), some (.long (lN (dsd s i))), none, some (.int (nI i))] [] h1 := by
    intro j
    induction j with
    | zero =>
      intro i h1 hij hW1 hq1
      obtain ⟨a, b, c, e⟩ := okt_drT hO (by omega) s i (by omega)
      have kk := k h1 hq1
      obtain ⟨r0, r1, r2, r3, r4, r5, r6, r7, r8, r9, r10, r11, r12, r13⟩ := id hW1
      have r5 : ∀ q, q < drT T s i 0 → h1 40 q = nI (drT T s i (5 + q)) := r5
      have r6 : ∀ q, q < drT T s i 0 → h1 41 q = nI (drT T s i (10 + q)) := r6
      have r7 : ∀ q, q < drT T s i 0 → h1 42 q = nI (drT T s i (15 + q)) := r7
      have r8 : ∀ q, q < drT T s i 1 → h1 43 q = nI (drT T s i (20 + q)) := r8
      have r9 : ∀ q, q < drT T s i 1 → h1 44 q = nI (drT T s i (26 + q)) := r9
      have r10 : ∀ q, q < drT T s i 1 → h1 45 q = nI (drT T s i (32 + q)) := r10
      have r11 : ∀ q, q < drT T s i 1 → h1 46 q = nI (drT T s i (38 + q)) := r11
      have r12 : ∀ q, q < drT T s i 1 → h1 47 q = nI (drT T s i (44 + q)) := r12
      have r13 : ∀ q, q < drT T s i 1 → h1 48 q = nI (drT T s i (50 + q)) := r13
      rw [c] at r2
      have e5 : ∀ q, q < T 0 → h1 40 q = nI (drT T s i (5 + q)) := fun q hq => r5 q (by omega)
      have e6 : ∀ q, q < T 0 → h1 41 q = nI (drT T s i (10 + q)) := fun q hq => r6 q (by omega)
      refine wp_iload (pc := 54) (i := 6) dX6_drawn_54 rfl ?_
      refine wp_iload_n (pc := 56) (i := 1) dX6_drawn_56 rfl rfl ?_
      first | (with_reducible show WP _ _ _ _ _ _ (Value.int (nI _) :: Value.int (nI _) :: _) _; refine wp_icmp_geN (pc := 57) (tgt := 105) dX6_drawn_57 (by decide) (by omega) (by omega) (fun c57 => ?_) (fun c57 => ?_)) | refine wp_icmp_ge (pc := 57) (tgt := 105) dX6_drawn_57 (by decide) (fun c57 => ?_) (fun c57 => ?_)
      refine wp_iload_n (pc := 105) (i := 3) dX6_drawn_105 rfl rfl ?_
      first | (with_reducible show WP _ _ _ _ _ _ (Value.int (bI _) :: _) _; refine wp_if_neB (pc := 106) (tgt := 119) dX6_drawn_106 (by decide) (fun c106 => ?_) (fun c106 => ?_)) | (with_reducible show WP _ _ _ _ _ _ (Value.int (nI _) :: _) _; refine wp_if_neN (pc := 106) (tgt := 119) dX6_drawn_106 (by decide) (by omega) (fun c106 => ?_) (fun c106 => ?_)) | refine wp_if_ne (pc := 106) (tgt := 119) dX6_drawn_106 (by decide) (fun c106 => ?_) (fun c106 => ?_)
      refine wp_aload_n (pc := 119) (i := 0) dX6_drawn_119 rfl rfl ?_
      refine wp_gfr (pc := 120) fk_X6_30 dX6_drawn_120 rfl rfl (by decide) ?_
      refine wp_gfr (pc := 123) fk_X6_190 dX6_drawn_123 rfl rfl (by decide) ?_
      refine wp_aload_n (pc := 126) (i := 0) dX6_drawn_126 rfl rfl ?_
      refine wp_gfr (pc := 127) fk_X6_30 dX6_drawn_127 rfl rfl (by decide) ?_
      refine wp_gfv (pc := 130) fk_X6_260 dX6_drawn_130 rfl rfl (by first | with_reducible assumption | with_reducible exact hs_same _ _ _ _ | rfl) ?_
      rotate_left
      refine wp_aload_n (pc := 109) (i := 0) dX6_drawn_109 rfl rfl ?_
      refine wp_gfr (pc := 110) fk_X6_30 dX6_drawn_110 rfl rfl (by decide) ?_
      refine wp_gfr (pc := 113) fk_X6_203 dX6_drawn_113 rfl rfl (by decide) ?_
      refine wp_goto (pc := 116) (tgt := 126) dX6_drawn_116 (by decide) ?_
      refine wp_aload_n (pc := 126) (i := 0) dX6_drawn_126 rfl rfl ?_
      refine wp_gfr (pc := 127) fk_X6_30 dX6_drawn_127 rfl rfl (by decide) ?_
      refine wp_gfv (pc := 130) fk_X6_260 dX6_drawn_130 rfl rfl (by first | with_reducible assumption | with_reducible exact hs_same _ _ _ _ | rfl) ?_
      rotate_left
      rotate_left
      · refine wp_cS2i (pc := 133) lk_X6_295 dX6_drawn_133 rfl (sp_sumOf rfl (by omega) e6 (by omega) ?_)
        refine wp_iret (pc := 136) dX6_drawn_136 rfl ?_
        rotate_left
        rw [if_neg (fun q => c106 (em.mp q)), show m = i by omega] at kk; exact kk
      · refine wp_cS2i (pc := 133) lk_X6_295 dX6_drawn_133 rfl (sp_sumOf rfl (by omega) e5 (by omega) ?_)
        refine wp_iret (pc := 136) dX6_drawn_136 rfl ?_
        rotate_left
        rw [if_pos (em.mpr c106), show m = i by omega] at kk; exact kk
      · exact absurd hij (by omega)
    | succ j ih =>
      intro i h1 hij hW1 hq1
      obtain ⟨a, b, c, e⟩ := okt_drT hO (by omega) s i (by omega)
      have l1 := dsd_lt (show s < 2147483647 by omega) i
      refine wp_iload (pc := 54) (i := 6) dX6_drawn_54 rfl ?_
      refine wp_iload_n (pc := 56) (i := 1) dX6_drawn_56 rfl rfl ?_
      first | (with_reducible show WP _ _ _ _ _ _ (Value.int (nI _) :: Value.int (nI _) :: _) _; refine wp_icmp_geN (pc := 57) (tgt := 105) dX6_drawn_57 (by decide) (by omega) (by omega) (fun c57 => ?_) (fun c57 => ?_)) | refine wp_icmp_ge (pc := 57) (tgt := 105) dX6_drawn_57 (by decide) (fun c57 => ?_) (fun c57 => ?_)
      rotate_left
      refine wp_lload (pc := 60) (i := 4) dX6_drawn_60 rfl ?_
      refine wp_ldc2 (pc := 62) kn_X6_285 dX6_drawn_62 ?_
      refine wp_lmulN (pc := 65) dX6_drawn_65 ?_
      refine wp_ldc2 (pc := 66) kn_X6_287 dX6_drawn_66 ?_
      refine wp_lremN (pc := 69) dX6_drawn_69 (by omega) (by omega) (by omega) ?_
      refine wp_lstore (pc := 70) (i := 4) dX6_drawn_70 rfl (by decide) rfl ?_
      dsimp only [List.set_cons_zero, List.set_cons_succ]
      refine wp_lload (pc := 72) (i := 4) dX6_drawn_72 rfl ?_
      refine wp_ldc2 (pc := 74) kn_X6_289 dX6_drawn_74 ?_
      refine wp_lremN (pc := 77) dX6_drawn_77 (by omega) (by omega) (by omega) ?_
      refine wp_lconst (pc := 78) (v := lN 0) dX6_drawn_78 rfl ?_
      refine wp_lcmp (pc := 79) dX6_drawn_79 ?_
      rotate_left
      · exact absurd hij (by omega)
      have l2 := dsd_lt (show s < 2147483647 by omega) (i + 1)
      show WP G (d + 5) mX6_drawn (pI K) 80 [some (.ref 0), some (.int (nI m)), some (.int (nI s)), some (.int (nI u)), some (.long (lN (dsd s (i + 1)))), none, some (.int (nI i))] [.int (lg_cmp (lN (dsd s (i + 1) % 4)) (lN 0))] h1
      have fin : ∀ h2, TW h2 39 (drI (drT T s i) (dsd s (i + 1))) → SC h h2 → WP G (d + 5) mX6_drawn (pI K) 92 [some (.ref 0), some (.int (nI m)), some (.int (nI s)), some (.int (nI u)), some (.long (lN (dsd s (i + 1)))), none, some (.int (nI i))] [] h2 := by
        intro h2 hW2 hq2
        obtain ⟨p1, p2⟩ := okt_drI (s := dsd s (i + 1)) a (by omega)
        refine wp_aload_n (pc := 92) (i := 0) dX6_drawn_92 rfl rfl ?_
        refine wp_gfr (pc := 93) fk_X6_30 dX6_drawn_93 rfl rfl (by decide) ?_
        refine wp_cV0v (pc := 96) lk_X6_165 dX6_drawn_96 rfl rfl rfl (sp_passDay isT_39 hW2 p1 (by rw [p2 1 (by omega)]; omega) (by rw [p2 4 (by omega)]; omega) (fun h3 hW3 hF3 => ?_))
        first | refine wp_iincN (pc := 99) (i := 6) (n := 1) dX6_drawn_99 rfl rfl (by decide) rfl ?_ | refine wp_iinc (pc := 99) (i := 6) dX6_drawn_99 rfl rfl rfl (by decide) rfl ?_
        dsimp only [List.set_cons_zero, List.set_cons_succ]
        refine wp_goto (pc := 102) (tgt := 54) dX6_drawn_102 (by decide) ?_
        rotate_left
        exact ih (i + 1) h3 (by omega) hW3 (hq2.tr (SC.fr hF3))
      refine wp_if_ne (pc := 80) (tgt := 92) dX6_drawn_80 (by decide) (fun c80 => ?_) (fun c80 => ?_)
      · have c80 := (cmp_ne (by omega) (by decide)).mp c80
        refine fin h1 ?_ hq1
        rw [drI, if_neg c80]; exact hW1
      · have c80 : dsd s (i + 1) % 4 = 0 := Decidable.byContradiction (fun q => (cmp_ne (by omega) (by decide)).mpr q c80)
        refine wp_aload_n (pc := 83) (i := 0) dX6_drawn_83 rfl rfl ?_
        refine wp_gfr (pc := 84) fk_X6_30 dX6_drawn_84 rfl rfl (by decide) ?_
        refine wp_lload (pc := 87) (i := 4) dX6_drawn_87 rfl ?_
        refine wp_cV1v (pc := 89) lk_X6_291 dX6_drawn_89 rfl rfl rfl (sp_fallIll isT_39 hW1 a (by omega) l2 (fun h2 hW2 hF2 => ?_))
        rotate_left
        refine fin h2 ?_ (hq1.tr (SC.fr hF2))
        rw [drI, if_pos c80]; exact hW2
  refine wp_aload_n (pc := 43) (i := 0) dX6_drawn_43 rfl rfl ?_
  refine wp_cV0v (pc := 44) lk_X6_212 dX6_drawn_44 rfl rfl rfl (sp_openTrial hW hO (fun h1 hW1 hf1 => ?_))
  refine wp_iload_n (pc := 47) (i := 2) dX6_drawn_47 rfl rfl ?_
  first | (with_reducible show WP _ _ _ _ _ _ (Value.int (nI _) :: _) _; refine wp_i2lN (pc := 48) dX6_drawn_48 (by omega) ?_) | refine wp_i2l (pc := 48) dX6_drawn_48 rfl ?_
  refine wp_lstore (pc := 49) (i := 4) dX6_drawn_49 rfl (by decide) rfl ?_
  dsimp only [List.set_cons_zero, List.set_cons_succ]
  refine wp_iconst (pc := 51) (v := nI 0) dX6_drawn_51 rfl ?_
  refine wp_istore (pc := 52) (i := 6) dX6_drawn_52 rfl (by decide) rfl ?_
  dsimp only [List.set_cons_zero, List.set_cons_succ]
  rotate_left
  exact loop m 0 h1 (by omega) hW1 (SC.tri hf1)
end DDRAWN
