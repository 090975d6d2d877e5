section RPASS
variable {G : Gt} {d : Nat} {h : Hp} {T : Tn} {b : Nat}
theorem sp7_feeds {c : Nat} {x : Int32} {K : Hp → Prop} (hR : RW h b T) (hb : b + 56 ≤ 1568) (hc : c < 5) (k : K (hs h 90 (b + 5 + c) (clI 99 (nI (T (5 + c)) + x)))) : Call G (d + 1) mX7_feeds [.ref 89, .int (nI b), .int (nI c), .int x] h (pV K) := by
  have w1 : ∀ k, k < 56 → h 90 (b + k) = nI (T k) := hR
  have w2 : ∀ k g, k + g < 56 → h 90 (b + k + g) = nI (T (k + g)) := fun k g hk => by rw [Nat.add_assoc]; exact hR _ hk
  refine Call.of (M := mX7_feeds) (n := 0) (by decide +kernel) rfl ?_
  show WP _ _ _ _ 0 [some (.ref 89), some (.int (nI b)), some (.int (nI c)), some (.int x)] [] _
  refine wp_aload_n (pc := 0) (i := 0) dX7_feeds_0 rfl rfl ?_
  refine wp_gfr (pc := 1) fk_X7_7 dX7_feeds_1 rfl rfl (by decide) ?_
  refine wp_iload_n (pc := 4) (i := 1) dX7_feeds_4 rfl rfl ?_
  refine wp_iconst (pc := 5) (v := nI 5) dX7_feeds_5 rfl ?_
  first | (with_reducible show WP _ _ _ _ _ _ (Value.int (nI _) :: Value.int (nI _) :: _) _; refine wp_iaddN (pc := 6) dX7_feeds_6 ?_) | refine wp_iadd (pc := 6) dX7_feeds_6 ?_
  refine wp_iload_n (pc := 7) (i := 2) dX7_feeds_7 rfl rfl ?_
  first | (with_reducible show WP _ _ _ _ _ _ (Value.int (nI _) :: Value.int (nI _) :: _) _; refine wp_iaddN (pc := 8) dX7_feeds_8 ?_) | refine wp_iadd (pc := 8) dX7_feeds_8 ?_
  refine wp_aload_n (pc := 9) (i := 0) dX7_feeds_9 rfl rfl ?_
  refine wp_gfr (pc := 10) fk_X7_7 dX7_feeds_10 rfl rfl (by decide) ?_
  refine wp_iload_n (pc := 13) (i := 1) dX7_feeds_13 rfl rfl ?_
  refine wp_iconst (pc := 14) (v := nI 5) dX7_feeds_14 rfl ?_
  first | (with_reducible show WP _ _ _ _ _ _ (Value.int (nI _) :: Value.int (nI _) :: _) _; refine wp_iaddN (pc := 15) dX7_feeds_15 ?_) | refine wp_iadd (pc := 15) dX7_feeds_15 ?_
  refine wp_iload_n (pc := 16) (i := 2) dX7_feeds_16 rfl rfl ?_
  first | (with_reducible show WP _ _ _ _ _ _ (Value.int (nI _) :: Value.int (nI _) :: _) _; refine wp_iaddN (pc := 17) dX7_feeds_17 ?_) | refine wp_iadd (pc := 17) dX7_feeds_17 ?_
  first | (with_reducible show WP _ _ _ _ _ _ (Value.int (nI _) :: _) _; refine wp_ialdN (pc := 18) dX7_feeds_18 rfl (by omega) (by first | exact w1 _ (by omega) | exact w2 _ _ (by omega) | with_reducible assumption | with_reducible exact hs_same _ _ _ _ | rfl) ?_) | refine wp_iald (pc := 18) dX7_feeds_18 rfl (by assumption) rfl ?_
  refine wp_iload_n (pc := 19) (i := 3) dX7_feeds_19 rfl rfl ?_
  first | (with_reducible show WP _ _ _ _ _ _ (Value.int (nI _) :: Value.int (nI _) :: _) _; refine wp_iaddN (pc := 20) dX7_feeds_20 ?_) | refine wp_iadd (pc := 20) dX7_feeds_20 ?_
  refine wp_bipush (pc := 21) (v := nI 99) dX7_feeds_21 rfl ?_
  refine wp_cS2i (pc := 23) lk_X7_151 dX7_feeds_23 rfl (sp7_between (by decide) ?_)
  first | (with_reducible show WP _ _ _ _ _ _ (_ :: Value.int (nI _) :: _) _; refine wp_iastN (pc := 26) dX7_feeds_26 rfl (by omega) ?_) | refine wp_iast (pc := 26) dX7_feeds_26 rfl (by assumption) rfl ?_
  refine wp_vret (pc := 27) dX7_feeds_27 rfl ?_
  rotate_left
  exact k
theorem sp7_spoils {c : Nat} {x : Int32} {K : Hp → Prop} (hR : RW h b T) (hb : b + 56 ≤ 1568) (hc : c < 5) (k : K (hs h 90 (b + 10 + c) (clI 20 (nI (T (10 + c)) + x)))) : Call G (d + 1) mX7_spoils [.ref 89, .int (nI b), .int (nI c), .int x] h (pV K) := by
  have w1 : ∀ k, k < 56 → h 90 (b + k) = nI (T k) := hR
  have w2 : ∀ k g, k + g < 56 → h 90 (b + k + g) = nI (T (k + g)) := fun k g hk => by rw [Nat.add_assoc]; exact hR _ hk
  refine Call.of (M := mX7_spoils) (n := 0) (by decide +kernel) rfl ?_
  show WP _ _ _ _ 0 [some (.ref 89), some (.int (nI b)), some (.int (nI c)), some (.int x)] [] _
  refine wp_aload_n (pc := 0) (i := 0) dX7_spoils_0 rfl rfl ?_
  refine wp_gfr (pc := 1) fk_X7_7 dX7_spoils_1 rfl rfl (by decide) ?_
  refine wp_iload_n (pc := 4) (i := 1) dX7_spoils_4 rfl rfl ?_
  refine wp_bipush (pc := 5) (v := nI 10) dX7_spoils_5 rfl ?_
  first | (with_reducible show WP _ _ _ _ _ _ (Value.int (nI _) :: Value.int (nI _) :: _) _; refine wp_iaddN (pc := 7) dX7_spoils_7 ?_) | refine wp_iadd (pc := 7) dX7_spoils_7 ?_
  refine wp_iload_n (pc := 8) (i := 2) dX7_spoils_8 rfl rfl ?_
  first | (with_reducible show WP _ _ _ _ _ _ (Value.int (nI _) :: Value.int (nI _) :: _) _; refine wp_iaddN (pc := 9) dX7_spoils_9 ?_) | refine wp_iadd (pc := 9) dX7_spoils_9 ?_
  refine wp_aload_n (pc := 10) (i := 0) dX7_spoils_10 rfl rfl ?_
  refine wp_gfr (pc := 11) fk_X7_7 dX7_spoils_11 rfl rfl (by decide) ?_
  refine wp_iload_n (pc := 14) (i := 1) dX7_spoils_14 rfl rfl ?_
  refine wp_bipush (pc := 15) (v := nI 10) dX7_spoils_15 rfl ?_
  first | (with_reducible show WP _ _ _ _ _ _ (Value.int (nI _) :: Value.int (nI _) :: _) _; refine wp_iaddN (pc := 17) dX7_spoils_17 ?_) | refine wp_iadd (pc := 17) dX7_spoils_17 ?_
  refine wp_iload_n (pc := 18) (i := 2) dX7_spoils_18 rfl rfl ?_
  first | (with_reducible show WP _ _ _ _ _ _ (Value.int (nI _) :: Value.int (nI _) :: _) _; refine wp_iaddN (pc := 19) dX7_spoils_19 ?_) | refine wp_iadd (pc := 19) dX7_spoils_19 ?_
  first | (with_reducible show WP _ _ _ _ _ _ (Value.int (nI _) :: _) _; refine wp_ialdN (pc := 20) dX7_spoils_20 rfl (by omega) (by first | exact w1 _ (by omega) | exact w2 _ _ (by omega) | with_reducible assumption | with_reducible exact hs_same _ _ _ _ | rfl) ?_) | refine wp_iald (pc := 20) dX7_spoils_20 rfl (by assumption) rfl ?_
  refine wp_iload_n (pc := 21) (i := 3) dX7_spoils_21 rfl rfl ?_
  first | (with_reducible show WP _ _ _ _ _ _ (Value.int (nI _) :: Value.int (nI _) :: _) _; refine wp_iaddN (pc := 22) dX7_spoils_22 ?_) | refine wp_iadd (pc := 22) dX7_spoils_22 ?_
  refine wp_bipush (pc := 23) (v := nI 20) dX7_spoils_23 rfl ?_
  refine wp_cS2i (pc := 25) lk_X7_151 dX7_spoils_25 rfl (sp7_between (by decide) ?_)
  first | (with_reducible show WP _ _ _ _ _ _ (_ :: Value.int (nI _) :: _) _; refine wp_iastN (pc := 28) dX7_spoils_28 rfl (by omega) ?_) | refine wp_iast (pc := 28) dX7_spoils_28 rfl (by assumption) rfl ?_
  refine wp_vret (pc := 29) dX7_spoils_29 rfl ?_
  rotate_left
  exact k
theorem sp7_feedsP {c m : Nat} {K : Hp → Prop} (hR : RW h b T) (hO : OKT T) (hb : b + 56 ≤ 1568) (hc : c < 5) (hm : m ≤ 1000) (k : K (hs h 90 (b + 5 + c) (nI (min 99 (T (5 + c) + m))))) : Call G (d + 1) mX7_feeds [.ref 89, .int (nI b), .int (nI c), .int (nI m)] h (pV K) := sp7_feeds hR hb hc (by
  have := (hO.2.2.2.2.2.2.1 c hc).1
  rw [clI_pos (by omega) (by omega)]; exact k)
theorem sp7_feedsM {c m : Nat} {K : Hp → Prop} (hR : RW h b T) (hO : OKT T) (hb : b + 56 ≤ 1568) (hc : c < 5) (hm : m ≤ 1000) (k : K (hs h 90 (b + 5 + c) (nI (T (5 + c) - m)))) : Call G (d + 1) mX7_feeds [.ref 89, .int (nI b), .int (nI c), .int (-nI m)] h (pV K) := sp7_feeds hR hb hc (by
  have := (hO.2.2.2.2.2.2.1 c hc).1
  rw [clI_neg (by omega) (by omega) (by omega)]; exact k)
theorem sp7_spoilsP {c m : Nat} {K : Hp → Prop} (hR : RW h b T) (hO : OKT T) (hb : b + 56 ≤ 1568) (hc : c < 5) (hm : m ≤ 1000) (k : K (hs h 90 (b + 10 + c) (nI (min 20 (T (10 + c) + m))))) : Call G (d + 1) mX7_spoils [.ref 89, .int (nI b), .int (nI c), .int (nI m)] h (pV K) := sp7_spoils hR hb hc (by
  have := (hO.2.2.2.2.2.2.1 c hc).2.1
  rw [clI_pos (by omega) (by omega)]; exact k)
theorem sp7_spoilsM {c m : Nat} {K : Hp → Prop} (hR : RW h b T) (hO : OKT T) (hb : b + 56 ≤ 1568) (hc : c < 5) (hm : m ≤ 1000) (k : K (hs h 90 (b + 10 + c) (nI (T (10 + c) - m)))) : Call G (d + 1) mX7_spoils [.ref 89, .int (nI b), .int (nI c), .int (-nI m)] h (pV K) := sp7_spoils hR hb hc (by
  have := (hO.2.2.2.2.2.2.1 c hc).2.1
  rw [clI_neg (by omega) (by omega) (by omega)]; exact k)
theorem sp7_brings {g c : Nat} {K : Hp → Prop} (hR : RW h b T) (hO : OKT T) (hb : b + 56 ≤ 1568) (hg : g < T 1) (hc : c < T 0) (k : ∀ h', RW h' b (vis T g c) → FB h h' b → K h') : Call G (d + 2) mX7_brings [.ref 89, .int (nI b), .int (nI g), .int (nI c)] h (pV K) := by
  obtain ⟨o0, o1, o2, o3, o4, o5, o6, o7, o8⟩ := id hO
  have w1 : ∀ k, k < 56 → h 90 (b + k) = nI (T k) := hR
  have w2 : ∀ k g, k + g < 56 → h 90 (b + k + g) = nI (T (k + g)) := fun k g hk => by rw [Nat.add_assoc]; exact hR _ hk
  obtain ⟨⟨k1, k2⟩, g1, g2, g3, g4, g5⟩ := o7 g hg
  have p0 := o5 (by omega)
  obtain ⟨f1, f2, f3⟩ := o6 c (by omega)
  have q1 := w2 20 g (by omega)
  refine Call.of (M := mX7_brings) (n := 1) (by decide +kernel) rfl ?_
  show WP _ _ _ _ 0 [some (.ref 89), some (.int (nI b)), some (.int (nI g)), some (.int (nI c)), none] [] _
  rcases (show T (20 + g) = 1 ∨ T (20 + g) = 2 ∨ T (20 + g) = 3 ∨ T (20 + g) = 4 ∨ T (20 + g) = 5 by omega) with q | q | q | q | q
  · rw [q] at q1
    rw [vis, if_pos q] at k
    refine wp_aload_n (pc := 0) (i := 0) dX7_brings_0 rfl rfl ?_
    refine wp_gfr (pc := 1) fk_X7_7 dX7_brings_1 rfl rfl (by decide) ?_
    refine wp_iload_n (pc := 4) (i := 1) dX7_brings_4 rfl rfl ?_
    refine wp_bipush (pc := 5) (v := nI 26) dX7_brings_5 rfl ?_
    first | (with_reducible show WP _ _ _ _ _ _ (Value.int (nI _) :: Value.int (nI _) :: _) _; refine wp_iaddN (pc := 7) dX7_brings_7 ?_) | refine wp_iadd (pc := 7) dX7_brings_7 ?_
    refine wp_iload_n (pc := 8) (i := 2) dX7_brings_8 rfl rfl ?_
    first | (with_reducible show WP _ _ _ _ _ _ (Value.int (nI _) :: Value.int (nI _) :: _) _; refine wp_iaddN (pc := 9) dX7_brings_9 ?_) | refine wp_iadd (pc := 9) dX7_brings_9 ?_
    first | (with_reducible show WP _ _ _ _ _ _ (Value.int (nI _) :: _) _; refine wp_ialdN (pc := 10) dX7_brings_10 rfl (by omega) (by first | assumption | exact w2 _ _ (by omega)) ?_) | refine wp_iald (pc := 10) dX7_brings_10 rfl (by assumption) rfl ?_
    refine wp_istore (pc := 11) (i := 4) dX7_brings_11 rfl (by decide) rfl ?_
    dsimp only [List.set_cons_zero, List.set_cons_succ]
    refine wp_aload_n (pc := 13) (i := 0) dX7_brings_13 rfl rfl ?_
    refine wp_gfr (pc := 14) fk_X7_7 dX7_brings_14 rfl rfl (by decide) ?_
    refine wp_iload_n (pc := 17) (i := 1) dX7_brings_17 rfl rfl ?_
    refine wp_bipush (pc := 18) (v := nI 20) dX7_brings_18 rfl ?_
    first | (with_reducible show WP _ _ _ _ _ _ (Value.int (nI _) :: Value.int (nI _) :: _) _; refine wp_iaddN (pc := 20) dX7_brings_20 ?_) | refine wp_iadd (pc := 20) dX7_brings_20 ?_
    refine wp_iload_n (pc := 21) (i := 2) dX7_brings_21 rfl rfl ?_
    first | (with_reducible show WP _ _ _ _ _ _ (Value.int (nI _) :: Value.int (nI _) :: _) _; refine wp_iaddN (pc := 22) dX7_brings_22 ?_) | refine wp_iadd (pc := 22) dX7_brings_22 ?_
    first | (with_reducible show WP _ _ _ _ _ _ (Value.int (nI _) :: _) _; refine wp_ialdN (pc := 23) dX7_brings_23 rfl (by omega) (by first | assumption | exact w2 _ _ (by omega)) ?_) | refine wp_iald (pc := 23) dX7_brings_23 rfl (by assumption) rfl ?_
    rotate_left
    refine wp_tableIn (tgt := 60) dX7_brings_24 (by decide) (by decide) rfl (by decide) ?_
    refine wp_aload_n (pc := 60) (i := 0) dX7_brings_60 rfl rfl ?_
    refine wp_iload_n (pc := 61) (i := 1) dX7_brings_61 rfl rfl ?_
    refine wp_iload_n (pc := 62) (i := 3) dX7_brings_62 rfl rfl ?_
    refine wp_iload (pc := 63) (i := 4) dX7_brings_63 rfl ?_
    refine wp_cV3v (pc := 65) lk_X7_154 dX7_brings_65 rfl rfl rfl (sp7_feedsP hR hO hb (by omega) (by omega) ?_)
    refine wp_goto (pc := 68) (tgt := 168) dX7_brings_68 (by decide) ?_
    refine wp_vret (pc := 168) dX7_brings_168 rfl ?_
    rotate_left
    exact k _ (RWup2 hR (by omega)) ((FB.rf h b).hs (by omega) (by omega))
  · rw [q] at q1
    rw [vis, if_neg (by omega), if_pos q] at k
    refine wp_aload_n (pc := 0) (i := 0) dX7_brings_0 rfl rfl ?_
    refine wp_gfr (pc := 1) fk_X7_7 dX7_brings_1 rfl rfl (by decide) ?_
    refine wp_iload_n (pc := 4) (i := 1) dX7_brings_4 rfl rfl ?_
    refine wp_bipush (pc := 5) (v := nI 26) dX7_brings_5 rfl ?_
    first | (with_reducible show WP _ _ _ _ _ _ (Value.int (nI _) :: Value.int (nI _) :: _) _; refine wp_iaddN (pc := 7) dX7_brings_7 ?_) | refine wp_iadd (pc := 7) dX7_brings_7 ?_
    refine wp_iload_n (pc := 8) (i := 2) dX7_brings_8 rfl rfl ?_
    first | (with_reducible show WP _ _ _ _ _ _ (Value.int (nI _) :: Value.int (nI _) :: _) _; refine wp_iaddN (pc := 9) dX7_brings_9 ?_) | refine wp_iadd (pc := 9) dX7_brings_9 ?_
    first | (with_reducible show WP _ _ _ _ _ _ (Value.int (nI _) :: _) _; refine wp_ialdN (pc := 10) dX7_brings_10 rfl (by omega) (by first | assumption | exact w2 _ _ (by omega)) ?_) | refine wp_iald (pc := 10) dX7_brings_10 rfl (by assumption) rfl ?_
    refine wp_istore (pc := 11) (i := 4) dX7_brings_11 rfl (by decide) rfl ?_
    dsimp only [List.set_cons_zero, List.set_cons_succ]
    refine wp_aload_n (pc := 13) (i := 0) dX7_brings_13 rfl rfl ?_
    refine wp_gfr (pc := 14) fk_X7_7 dX7_brings_14 rfl rfl (by decide) ?_
    refine wp_iload_n (pc := 17) (i := 1) dX7_brings_17 rfl rfl ?_
    refine wp_bipush (pc := 18) (v := nI 20) dX7_brings_18 rfl ?_
    first | (with_reducible show WP _ _ _ _ _ _ (Value.int (nI _) :: Value.int (nI _) :: _) _; refine wp_iaddN (pc := 20) dX7_brings_20 ?_) | refine wp_iadd (pc := 20) dX7_brings_20 ?_
    refine wp_iload_n (pc := 21) (i := 2) dX7_brings_21 rfl rfl ?_
    first | (with_reducible show WP _ _ _ _ _ _ (Value.int (nI _) :: Value.int (nI _) :: _) _; refine wp_iaddN (pc := 22) dX7_brings_22 ?_) | refine wp_iadd (pc := 22) dX7_brings_22 ?_
    first | (with_reducible show WP _ _ _ _ _ _ (Value.int (nI _) :: _) _; refine wp_ialdN (pc := 23) dX7_brings_23 rfl (by omega) (by first | assumption | exact w2 _ _ (by omega)) ?_) | refine wp_iald (pc := 23) dX7_brings_23 rfl (by assumption) rfl ?_
    rotate_left
    refine wp_tableIn (tgt := 71) dX7_brings_24 (by decide) (by decide) rfl (by decide) ?_
    have hR1 := RWup2 (v := min 99 (T (5 + c) + 2 * T (26 + g))) hR (show 5 + c < 56 by omega)
    have hO1 := hO.fed (v := min 99 (T (5 + c) + 2 * T (26 + g))) hc (by omega)
    refine wp_aload_n (pc := 71) (i := 0) dX7_brings_71 rfl rfl ?_
    refine wp_iload_n (pc := 72) (i := 1) dX7_brings_72 rfl rfl ?_
    refine wp_iload_n (pc := 73) (i := 3) dX7_brings_73 rfl rfl ?_
    refine wp_iconst (pc := 74) (v := nI 2) dX7_brings_74 rfl ?_
    refine wp_iload (pc := 75) (i := 4) dX7_brings_75 rfl ?_
    first | (with_reducible show WP _ _ _ _ _ _ (Value.int (nI _) :: Value.int (nI _) :: _) _; refine wp_imulN (pc := 77) dX7_brings_77 ?_) | refine wp_imul (pc := 77) dX7_brings_77 ?_
    refine wp_cV3v (pc := 78) lk_X7_154 dX7_brings_78 rfl rfl rfl (sp7_feedsP hR hO hb (by omega) (by omega) ?_)
    refine wp_aload_n (pc := 81) (i := 0) dX7_brings_81 rfl rfl ?_
    refine wp_iload_n (pc := 82) (i := 1) dX7_brings_82 rfl rfl ?_
    refine wp_iload_n (pc := 83) (i := 3) dX7_brings_83 rfl rfl ?_
    refine wp_iconst (pc := 84) (v := nI 1) dX7_brings_84 rfl ?_
    refine wp_cV3v (pc := 85) lk_X7_158 dX7_brings_85 rfl rfl rfl (sp7_spoilsP hR1 hO1 hb (by omega) (by omega) ?_)
    refine wp_goto (pc := 88) (tgt := 168) dX7_brings_88 (by decide) ?_
    refine wp_vret (pc := 168) dX7_brings_168 rfl ?_
    rotate_left
    rw [up_ne (show 10 + c ≠ 5 + c by omega)]
    exact k _ (RWup2 hR1 (by omega)) (((FB.rf h b).hs (by omega) (by omega)).hs (by omega) (by omega))
  · rw [q] at q1
    rw [vis, if_neg (by omega), if_neg (by omega), if_pos q] at k
    refine wp_aload_n (pc := 0) (i := 0) dX7_brings_0 rfl rfl ?_
    refine wp_gfr (pc := 1) fk_X7_7 dX7_brings_1 rfl rfl (by decide) ?_
    refine wp_iload_n (pc := 4) (i := 1) dX7_brings_4 rfl rfl ?_
    refine wp_bipush (pc := 5) (v := nI 26) dX7_brings_5 rfl ?_
    first | (with_reducible show WP _ _ _ _ _ _ (Value.int (nI _) :: Value.int (nI _) :: _) _; refine wp_iaddN (pc := 7) dX7_brings_7 ?_) | refine wp_iadd (pc := 7) dX7_brings_7 ?_
    refine wp_iload_n (pc := 8) (i := 2) dX7_brings_8 rfl rfl ?_
    first | (with_reducible show WP _ _ _ _ _ _ (Value.int (nI _) :: Value.int (nI _) :: _) _; refine wp_iaddN (pc := 9) dX7_brings_9 ?_) | refine wp_iadd (pc := 9) dX7_brings_9 ?_
    first | (with_reducible show WP _ _ _ _ _ _ (Value.int (nI _) :: _) _; refine wp_ialdN (pc := 10) dX7_brings_10 rfl (by omega) (by first | assumption | exact w2 _ _ (by omega)) ?_) | refine wp_iald (pc := 10) dX7_brings_10 rfl (by assumption) rfl ?_
    refine wp_istore (pc := 11) (i := 4) dX7_brings_11 rfl (by decide) rfl ?_
    dsimp only [List.set_cons_zero, List.set_cons_succ]
    refine wp_aload_n (pc := 13) (i := 0) dX7_brings_13 rfl rfl ?_
    refine wp_gfr (pc := 14) fk_X7_7 dX7_brings_14 rfl rfl (by decide) ?_
    refine wp_iload_n (pc := 17) (i := 1) dX7_brings_17 rfl rfl ?_
    refine wp_bipush (pc := 18) (v := nI 20) dX7_brings_18 rfl ?_
    first | (with_reducible show WP _ _ _ _ _ _ (Value.int (nI _) :: Value.int (nI _) :: _) _; refine wp_iaddN (pc := 20) dX7_brings_20 ?_) | refine wp_iadd (pc := 20) dX7_brings_20 ?_
    refine wp_iload_n (pc := 21) (i := 2) dX7_brings_21 rfl rfl ?_
    first | (with_reducible show WP _ _ _ _ _ _ (Value.int (nI _) :: Value.int (nI _) :: _) _; refine wp_iaddN (pc := 22) dX7_brings_22 ?_) | refine wp_iadd (pc := 22) dX7_brings_22 ?_
    first | (with_reducible show WP _ _ _ _ _ _ (Value.int (nI _) :: _) _; refine wp_ialdN (pc := 23) dX7_brings_23 rfl (by omega) (by first | assumption | exact w2 _ _ (by omega)) ?_) | refine wp_iald (pc := 23) dX7_brings_23 rfl (by assumption) rfl ?_
    rotate_left
    refine wp_tableIn (tgt := 91) dX7_brings_24 (by decide) (by decide) rfl (by decide) ?_
    have hR1 := RWup2 (v := min 99 (T (5 + c) + T (26 + g) / 2)) hR (show 5 + c < 56 by omega)
    have m1 := Nat.mod_lt (T (26 + g) + T 4) p0.2
    have z1 := hR1 (15 + c) (by omega)
    rw [← Nat.add_assoc, up_ne (show 15 + c ≠ 5 + c by omega)] at z1
    have z2 := hR1 3 (by omega)
    rw [up_ne (by omega)] at z2
    have z3 := hR1 4 (by omega)
    rw [up_ne (by omega)] at z3
    refine wp_aload_n (pc := 91) (i := 0) dX7_brings_91 rfl rfl ?_
    refine wp_iload_n (pc := 92) (i := 1) dX7_brings_92 rfl rfl ?_
    refine wp_iload_n (pc := 93) (i := 3) dX7_brings_93 rfl rfl ?_
    refine wp_iload (pc := 94) (i := 4) dX7_brings_94 rfl ?_
    refine wp_iconst (pc := 96) (v := nI 2) dX7_brings_96 rfl ?_
    first | (with_reducible show WP _ _ _ _ _ _ (Value.int (nI _) :: Value.int (nI _) :: _) _; refine wp_idivN (pc := 97) dX7_brings_97 (by omega) (by omega) (by omega) ?_) | refine wp_idiv (pc := 97) dX7_brings_97 (by first | assumption | decide) ?_
    refine wp_cV3v (pc := 98) lk_X7_154 dX7_brings_98 rfl rfl rfl (sp7_feedsP hR hO hb (by omega) (by omega) ?_)
    refine wp_aload_n (pc := 101) (i := 0) dX7_brings_101 rfl rfl ?_
    refine wp_gfr (pc := 102) fk_X7_7 dX7_brings_102 rfl rfl (by decide) ?_
    refine wp_iload_n (pc := 105) (i := 1) dX7_brings_105 rfl rfl ?_
    refine wp_bipush (pc := 106) (v := nI 15) dX7_brings_106 rfl ?_
    first | (with_reducible show WP _ _ _ _ _ _ (Value.int (nI _) :: Value.int (nI _) :: _) _; refine wp_iaddN (pc := 108) dX7_brings_108 ?_) | refine wp_iadd (pc := 108) dX7_brings_108 ?_
    refine wp_iload_n (pc := 109) (i := 3) dX7_brings_109 rfl rfl ?_
    first | (with_reducible show WP _ _ _ _ _ _ (Value.int (nI _) :: Value.int (nI _) :: _) _; refine wp_iaddN (pc := 110) dX7_brings_110 ?_) | refine wp_iadd (pc := 110) dX7_brings_110 ?_
    refine wp_dup2 (pc := 111) dX7_brings_111 rfl rfl ?_
    first | (with_reducible show WP _ _ _ _ _ _ (Value.int (nI _) :: _) _; refine wp_ialdN (pc := 112) dX7_brings_112 rfl (by omega) (by first | with_reducible assumption | with_reducible exact hs_same _ _ _ _ | rfl) ?_) | refine wp_iald (pc := 112) dX7_brings_112 rfl (by assumption) rfl ?_
    refine wp_iconst (pc := 113) (v := nI 1) dX7_brings_113 rfl ?_
    refine wp_iload (pc := 114) (i := 4) dX7_brings_114 rfl ?_
    refine wp_aload_n (pc := 116) (i := 0) dX7_brings_116 rfl rfl ?_
    refine wp_gfr (pc := 117) fk_X7_7 dX7_brings_117 rfl rfl (by decide) ?_
    refine wp_iload_n (pc := 120) (i := 1) dX7_brings_120 rfl rfl ?_
    refine wp_iconst (pc := 121) (v := nI 4) dX7_brings_121 rfl ?_
    first | (with_reducible show WP _ _ _ _ _ _ (Value.int (nI _) :: Value.int (nI _) :: _) _; refine wp_iaddN (pc := 122) dX7_brings_122 ?_) | refine wp_iadd (pc := 122) dX7_brings_122 ?_
    first | (with_reducible show WP _ _ _ _ _ _ (Value.int (nI _) :: _) _; refine wp_ialdN (pc := 123) dX7_brings_123 rfl (by omega) (by first | with_reducible assumption | with_reducible exact hs_same _ _ _ _ | rfl) ?_) | refine wp_iald (pc := 123) dX7_brings_123 rfl (by assumption) rfl ?_
    first | (with_reducible show WP _ _ _ _ _ _ (Value.int (nI _) :: Value.int (nI _) :: _) _; refine wp_iaddN (pc := 124) dX7_brings_124 ?_) | refine wp_iadd (pc := 124) dX7_brings_124 ?_
    refine wp_aload_n (pc := 125) (i := 0) dX7_brings_125 rfl rfl ?_
    refine wp_gfr (pc := 126) fk_X7_7 dX7_brings_126 rfl rfl (by decide) ?_
    refine wp_iload_n (pc := 129) (i := 1) dX7_brings_129 rfl rfl ?_
    refine wp_iconst (pc := 130) (v := nI 3) dX7_brings_130 rfl ?_
    first | (with_reducible show WP _ _ _ _ _ _ (Value.int (nI _) :: Value.int (nI _) :: _) _; refine wp_iaddN (pc := 131) dX7_brings_131 ?_) | refine wp_iadd (pc := 131) dX7_brings_131 ?_
    first | (with_reducible show WP _ _ _ _ _ _ (Value.int (nI _) :: _) _; refine wp_ialdN (pc := 132) dX7_brings_132 rfl (by omega) (by first | with_reducible assumption | with_reducible exact hs_same _ _ _ _ | rfl) ?_) | refine wp_iald (pc := 132) dX7_brings_132 rfl (by assumption) rfl ?_
    first | (with_reducible show WP _ _ _ _ _ _ (Value.int (nI _) :: Value.int (nI _) :: _) _; refine wp_iremN (pc := 133) dX7_brings_133 (by omega) (by omega) (by omega) ?_) | refine wp_irem (pc := 133) dX7_brings_133 (by first | assumption | decide) ?_
    first | (with_reducible show WP _ _ _ _ _ _ (Value.int (nI _) :: Value.int (nI _) :: _) _; refine wp_ishlN (pc := 134) dX7_brings_134 (by omega) ?_) | refine wp_ishl (pc := 134) dX7_brings_134 ?_
    first | (with_reducible show WP _ _ _ _ _ _ (Value.int (nI _) :: Value.int (nI _) :: _) _; refine wp_iorN (pc := 135) dX7_brings_135 ?_) | refine wp_ior (pc := 135) dX7_brings_135 ?_
    first | (with_reducible show WP _ _ _ _ _ _ (_ :: Value.int (nI _) :: _) _; refine wp_iastN (pc := 136) dX7_brings_136 rfl (by omega) ?_) | refine wp_iast (pc := 136) dX7_brings_136 rfl (by assumption) rfl ?_
    refine wp_goto (pc := 137) (tgt := 168) dX7_brings_137 (by decide) ?_
    refine wp_vret (pc := 168) dX7_brings_168 rfl ?_
    rotate_left
    refine k _ (RWup2 hR1 (by omega)) (((FB.rf h b).hs (by omega) (by omega)).hs (by omega) (by omega))
  · rw [q] at q1
    rw [vis, if_neg (by omega), if_neg (by omega), if_neg (by omega), if_pos q] at k
    refine wp_aload_n (pc := 0) (i := 0) dX7_brings_0 rfl rfl ?_
    refine wp_gfr (pc := 1) fk_X7_7 dX7_brings_1 rfl rfl (by decide) ?_
    refine wp_iload_n (pc := 4) (i := 1) dX7_brings_4 rfl rfl ?_
    refine wp_bipush (pc := 5) (v := nI 26) dX7_brings_5 rfl ?_
    first | (with_reducible show WP _ _ _ _ _ _ (Value.int (nI _) :: Value.int (nI _) :: _) _; refine wp_iaddN (pc := 7) dX7_brings_7 ?_) | refine wp_iadd (pc := 7) dX7_brings_7 ?_
    refine wp_iload_n (pc := 8) (i := 2) dX7_brings_8 rfl rfl ?_
    first | (with_reducible show WP _ _ _ _ _ _ (Value.int (nI _) :: Value.int (nI _) :: _) _; refine wp_iaddN (pc := 9) dX7_brings_9 ?_) | refine wp_iadd (pc := 9) dX7_brings_9 ?_
    first | (with_reducible show WP _ _ _ _ _ _ (Value.int (nI _) :: _) _; refine wp_ialdN (pc := 10) dX7_brings_10 rfl (by omega) (by first | assumption | exact w2 _ _ (by omega)) ?_) | refine wp_iald (pc := 10) dX7_brings_10 rfl (by assumption) rfl ?_
    refine wp_istore (pc := 11) (i := 4) dX7_brings_11 rfl (by decide) rfl ?_
    dsimp only [List.set_cons_zero, List.set_cons_succ]
    refine wp_aload_n (pc := 13) (i := 0) dX7_brings_13 rfl rfl ?_
    refine wp_gfr (pc := 14) fk_X7_7 dX7_brings_14 rfl rfl (by decide) ?_
    refine wp_iload_n (pc := 17) (i := 1) dX7_brings_17 rfl rfl ?_
    refine wp_bipush (pc := 18) (v := nI 20) dX7_brings_18 rfl ?_
    first | (with_reducible show WP _ _ _ _ _ _ (Value.int (nI _) :: Value.int (nI _) :: _) _; refine wp_iaddN (pc := 20) dX7_brings_20 ?_) | refine wp_iadd (pc := 20) dX7_brings_20 ?_
    refine wp_iload_n (pc := 21) (i := 2) dX7_brings_21 rfl rfl ?_
    first | (with_reducible show WP _ _ _ _ _ _ (Value.int (nI _) :: Value.int (nI _) :: _) _; refine wp_iaddN (pc := 22) dX7_brings_22 ?_) | refine wp_iadd (pc := 22) dX7_brings_22 ?_
    first | (with_reducible show WP _ _ _ _ _ _ (Value.int (nI _) :: _) _; refine wp_ialdN (pc := 23) dX7_brings_23 rfl (by omega) (by first | assumption | exact w2 _ _ (by omega)) ?_) | refine wp_iald (pc := 23) dX7_brings_23 rfl (by assumption) rfl ?_
    rotate_left
    refine wp_tableIn (tgt := 159) dX7_brings_24 (by decide) (by decide) rfl (by decide) ?_
    refine wp_aload_n (pc := 159) (i := 0) dX7_brings_159 rfl rfl ?_
    refine wp_iload_n (pc := 160) (i := 1) dX7_brings_160 rfl rfl ?_
    refine wp_iload_n (pc := 161) (i := 3) dX7_brings_161 rfl rfl ?_
    refine wp_iload (pc := 162) (i := 4) dX7_brings_162 rfl ?_
    refine wp_ineg (pc := 164) dX7_brings_164 ?_
    refine wp_cV3v (pc := 165) lk_X7_158 dX7_brings_165 rfl rfl rfl (sp7_spoilsM hR hO hb (by omega) (by omega) ?_)
    refine wp_vret (pc := 168) dX7_brings_168 rfl ?_
    rotate_left
    exact k _ (RWup2 hR (by omega)) ((FB.rf h b).hs (by omega) (by omega))
  · rw [q] at q1
    rw [vis, if_neg (by omega), if_neg (by omega), if_neg (by omega), if_neg (by omega)] at k
    refine wp_aload_n (pc := 0) (i := 0) dX7_brings_0 rfl rfl ?_
    refine wp_gfr (pc := 1) fk_X7_7 dX7_brings_1 rfl rfl (by decide) ?_
    refine wp_iload_n (pc := 4) (i := 1) dX7_brings_4 rfl rfl ?_
    refine wp_bipush (pc := 5) (v := nI 26) dX7_brings_5 rfl ?_
    first | (with_reducible show WP _ _ _ _ _ _ (Value.int (nI _) :: Value.int (nI _) :: _) _; refine wp_iaddN (pc := 7) dX7_brings_7 ?_) | refine wp_iadd (pc := 7) dX7_brings_7 ?_
    refine wp_iload_n (pc := 8) (i := 2) dX7_brings_8 rfl rfl ?_
    first | (with_reducible show WP _ _ _ _ _ _ (Value.int (nI _) :: Value.int (nI _) :: _) _; refine wp_iaddN (pc := 9) dX7_brings_9 ?_) | refine wp_iadd (pc := 9) dX7_brings_9 ?_
    first | (with_reducible show WP _ _ _ _ _ _ (Value.int (nI _) :: _) _; refine wp_ialdN (pc := 10) dX7_brings_10 rfl (by omega) (by first | assumption | exact w2 _ _ (by omega)) ?_) | refine wp_iald (pc := 10) dX7_brings_10 rfl (by assumption) rfl ?_
    refine wp_istore (pc := 11) (i := 4) dX7_brings_11 rfl (by decide) rfl ?_
    dsimp only [List.set_cons_zero, List.set_cons_succ]
    refine wp_aload_n (pc := 13) (i := 0) dX7_brings_13 rfl rfl ?_
    refine wp_gfr (pc := 14) fk_X7_7 dX7_brings_14 rfl rfl (by decide) ?_
    refine wp_iload_n (pc := 17) (i := 1) dX7_brings_17 rfl rfl ?_
    refine wp_bipush (pc := 18) (v := nI 20) dX7_brings_18 rfl ?_
    first | (with_reducible show WP _ _ _ _ _ _ (Value.int (nI _) :: Value.int (nI _) :: _) _; refine wp_iaddN (pc := 20) dX7_brings_20 ?_) | refine wp_iadd (pc := 20) dX7_brings_20 ?_
    refine wp_iload_n (pc := 21) (i := 2) dX7_brings_21 rfl rfl ?_
    first | (with_reducible show WP _ _ _ _ _ _ (Value.int (nI _) :: Value.int (nI _) :: _) _; refine wp_iaddN (pc := 22) dX7_brings_22 ?_) | refine wp_iadd (pc := 22) dX7_brings_22 ?_
    first | (with_reducible show WP _ _ _ _ _ _ (Value.int (nI _) :: _) _; refine wp_ialdN (pc := 23) dX7_brings_23 rfl (by omega) (by first | assumption | exact w2 _ _ (by omega)) ?_) | refine wp_iald (pc := 23) dX7_brings_23 rfl (by assumption) rfl ?_
    rotate_left
    refine wp_tableIn (tgt := 140) dX7_brings_24 (by decide) (by decide) rfl (by decide) ?_
    have hR1 := RWup2 (v := T (10 + c) - T (26 + g)) hR (show 10 + c < 56 by omega)
    have hO1 := hO.spo (v := T (10 + c) - T (26 + g)) hc (by omega)
    refine wp_aload_n (pc := 140) (i := 0) dX7_brings_140 rfl rfl ?_
    refine wp_iload_n (pc := 141) (i := 1) dX7_brings_141 rfl rfl ?_
    refine wp_iload_n (pc := 142) (i := 3) dX7_brings_142 rfl rfl ?_
    refine wp_iload (pc := 143) (i := 4) dX7_brings_143 rfl ?_
    refine wp_ineg (pc := 145) dX7_brings_145 ?_
    refine wp_cV3v (pc := 146) lk_X7_158 dX7_brings_146 rfl rfl rfl (sp7_spoilsM hR hO hb (by omega) (by omega) ?_)
    refine wp_aload_n (pc := 149) (i := 0) dX7_brings_149 rfl rfl ?_
    refine wp_iload_n (pc := 150) (i := 1) dX7_brings_150 rfl rfl ?_
    refine wp_iload_n (pc := 151) (i := 3) dX7_brings_151 rfl rfl ?_
    refine wp_iconst (pc := 152) (v := nI 1) dX7_brings_152 rfl ?_
    refine wp_cV3v (pc := 153) lk_X7_154 dX7_brings_153 rfl rfl rfl (sp7_feedsP hR1 hO1 hb (by omega) (by omega) ?_)
    refine wp_goto (pc := 156) (tgt := 168) dX7_brings_156 (by decide) ?_
    refine wp_vret (pc := 168) dX7_brings_168 rfl ?_
    rotate_left
    rw [up_ne (show 5 + c ≠ 10 + c by omega)]
    exact k _ (RWup2 hR1 (by omega)) (((FB.rf h b).hs (by omega) (by omega)).hs (by omega) (by omega))
theorem lz_eqv {T' : Tn} (e : eqv T T') (g : Nat) : ∀ k, lz T' g k = lz T g k
  | 0 => rfl
  | k + 1 => by unfold lz; rw [lz_eqv e g k, e _ (by omega), wt_eqv e, wt_eqv e]
theorem eq_sw {T1 T2 : Tn} (h : ∀ j, T1 j = T2 j) : T1 = T2 := funext h
theorem sp7_pass {K : Hp → Prop} (hR : RW h b T) (hO : OKT T) (hb : b + 56 ≤ 1568) (h0 : 0 < T 1) (hd : T 4 < 1200) (k : ∀ h', RW h' b (passT T) → FB h h' b → K h') : Call G (d + 3) mX7_pass [.ref 89, .int (nI b)] h (pV K) := by
  obtain ⟨o0, o1, o2, o3, o4, o5, o6, o7, o8⟩ := id hO
  have p0 := (o5 h0).1
  have hq := pass_eq p0 hO
  have okv := okt_vs hO p0 (T 1) (Nat.le_refl _)
  have ev : ∀ i, eqv T (vs T i) := fun i j hj => vs_out o0 p0 hj i
  have x0 : vs T (T 1) 0 = T 0 := ev _ 0 (by omega)
  have x1 : vs T (T 1) 1 = T 1 := ev _ 1 (by omega)
  have x2 : vs T (T 1) 2 = T 2 := ev _ 2 (by omega)
  have x4 : vs T (T 1) 4 = T 4 := ev _ 4 (by omega)
  have oke := okt_ea okv
  -- the sick, then the day
  have loopC : ∀ m i h1, i + m = T 1 → FB h h1 b → RW h1 b (siT (eaT (vs T (T 1)) (T 0)) i) → WP G (d + 3) mX7_pass (pV K) 89 [some (.ref 89), some (.int (nI b)), some (.int (nI i))] [] h1 := by
    have okd := oke (T 0) (by omega)
    have y1 : eaT (vs T (T 1)) (T 0) 1 = T 1 := by rw [eaT_out o0 (by omega), x1]
    have y4 : eaT (vs T (T 1)) (T 0) 4 = T 4 := by rw [eaT_out o0 (by omega), x4]
    intro m
    induction m with
    | zero =>
      intro i h1 him hF hR1
      have z1 := hR1 1 (by omega)
      rw [siT_out (by omega) (by omega), y1] at z1
      have z4 := hR1 4 (by omega)
      rw [siT_out (by omega) (by omega), y4] at z4
      refine wp_iload_n (pc := 89) (i := 2) dX7_pass_89 rfl rfl ?_
      refine wp_aload_n (pc := 90) (i := 0) dX7_pass_90 rfl rfl ?_
      refine wp_gfr (pc := 91) fk_X7_7 dX7_pass_91 rfl rfl (by decide) ?_
      refine wp_iload_n (pc := 94) (i := 1) dX7_pass_94 rfl rfl ?_
      refine wp_iconst (pc := 95) (v := nI 1) dX7_pass_95 rfl ?_
      first | (with_reducible show WP _ _ _ _ _ _ (Value.int (nI _) :: Value.int (nI _) :: _) _; refine wp_iaddN (pc := 96) dX7_pass_96 ?_) | refine wp_iadd (pc := 96) dX7_pass_96 ?_
      first | (with_reducible show WP _ _ _ _ _ _ (Value.int (nI _) :: _) _; refine wp_ialdN (pc := 97) dX7_pass_97 rfl (by omega) (by first | with_reducible assumption | with_reducible exact hs_same _ _ _ _ | rfl) ?_) | refine wp_iald (pc := 97) dX7_pass_97 rfl (by assumption) rfl ?_
      first | (with_reducible show WP _ _ _ _ _ _ (Value.int (nI _) :: Value.int (nI _) :: _) _; refine wp_icmp_geN (pc := 98) (tgt := 140) dX7_pass_98 (by decide) (by omega) (by omega) (fun c98 => ?_) (fun c98 => ?_)) | refine wp_icmp_ge (pc := 98) (tgt := 140) dX7_pass_98 (by decide) (fun c98 => ?_) (fun c98 => ?_)
      refine wp_aload_n (pc := 140) (i := 0) dX7_pass_140 rfl rfl ?_
      refine wp_gfr (pc := 141) fk_X7_7 dX7_pass_141 rfl rfl (by decide) ?_
      refine wp_iload_n (pc := 144) (i := 1) dX7_pass_144 rfl rfl ?_
      refine wp_iconst (pc := 145) (v := nI 4) dX7_pass_145 rfl ?_
      first | (with_reducible show WP _ _ _ _ _ _ (Value.int (nI _) :: Value.int (nI _) :: _) _; refine wp_iaddN (pc := 146) dX7_pass_146 ?_) | refine wp_iadd (pc := 146) dX7_pass_146 ?_
      refine wp_dup2 (pc := 147) dX7_pass_147 rfl rfl ?_
      first | (with_reducible show WP _ _ _ _ _ _ (Value.int (nI _) :: _) _; refine wp_ialdN (pc := 148) dX7_pass_148 rfl (by omega) (by first | with_reducible assumption | with_reducible exact hs_same _ _ _ _ | rfl) ?_) | refine wp_iald (pc := 148) dX7_pass_148 rfl (by assumption) rfl ?_
      refine wp_iconst (pc := 149) (v := nI 1) dX7_pass_149 rfl ?_
      first | (with_reducible show WP _ _ _ _ _ _ (Value.int (nI _) :: Value.int (nI _) :: _) _; refine wp_iaddN (pc := 150) dX7_pass_150 ?_) | refine wp_iadd (pc := 150) dX7_pass_150 ?_
      first | (with_reducible show WP _ _ _ _ _ _ (_ :: Value.int (nI _) :: _) _; refine wp_iastN (pc := 151) dX7_pass_151 rfl (by omega) ?_) | refine wp_iast (pc := 151) dX7_pass_151 rfl (by assumption) rfl ?_
      refine wp_vret (pc := 152) dX7_pass_152 rfl ?_
      rotate_left
      rotate_left
      · refine k _ ?_ (hF.hs (by omega) (by omega))
        have e5 : passT T = up (siT (eaT (vs T (T 1)) (T 0)) i) 4 (T 4 + 1) := by
          rw [hq, show i = T 1 by omega]
          funext j
          unfold siT up
          by_cases w : j = 4
          · subst w; rw [if_neg (by omega), if_pos rfl, if_pos rfl]
          · simp only [w, if_false]
        rw [e5]
        exact RWup hR1 (by omega)
      · exact absurd him (by omega)
    | succ m ih =>
      intro i h1 him hF hR1
      have hO1 := okt_si okd i (by rw [y1]; omega)
      have z1 := hR1 1 (by omega)
      rw [siT_out (by omega) (by omega), y1] at z1
      have b1 := (hO1.2.2.2.2.2.2.2.1 i (by rw [siT_out (by omega) (by omega), y1]; omega)).2.2.2.2.1
      have r12 := hR1 (44 + i) (by omega)
      rw [← Nat.add_assoc] at r12
      generalize hv : siT (eaT (vs T (T 1)) (T 0)) i (44 + i) = v at r12 b1
      have nx : ∀ w : Int32, w = nI (v - 1) → WP G (d + 3) mX7_pass (pV K) 89 [some (.ref 89), some (.int (nI b)), some (.int (nI (i + 1)))] [] (hs h1 90 (b + 44 + i) w) := fun w hw => by
        rw [hw]
        refine ih (i + 1) _ (by omega) (hF.hs (by omega) (by omega)) ?_
        rw [siT_succ, hv]
        exact RWup2 hR1 (by omega)
      refine wp_iload_n (pc := 89) (i := 2) dX7_pass_89 rfl rfl ?_
      refine wp_aload_n (pc := 90) (i := 0) dX7_pass_90 rfl rfl ?_
      refine wp_gfr (pc := 91) fk_X7_7 dX7_pass_91 rfl rfl (by decide) ?_
      refine wp_iload_n (pc := 94) (i := 1) dX7_pass_94 rfl rfl ?_
      refine wp_iconst (pc := 95) (v := nI 1) dX7_pass_95 rfl ?_
      first | (with_reducible show WP _ _ _ _ _ _ (Value.int (nI _) :: Value.int (nI _) :: _) _; refine wp_iaddN (pc := 96) dX7_pass_96 ?_) | refine wp_iadd (pc := 96) dX7_pass_96 ?_
      first | (with_reducible show WP _ _ _ _ _ _ (Value.int (nI _) :: _) _; refine wp_ialdN (pc := 97) dX7_pass_97 rfl (by omega) (by first | with_reducible assumption | with_reducible exact hs_same _ _ _ _ | rfl) ?_) | refine wp_iald (pc := 97) dX7_pass_97 rfl (by assumption) rfl ?_
      first | (with_reducible show WP _ _ _ _ _ _ (Value.int (nI _) :: Value.int (nI _) :: _) _; refine wp_icmp_geN (pc := 98) (tgt := 140) dX7_pass_98 (by decide) (by omega) (by omega) (fun c98 => ?_) (fun c98 => ?_)) | refine wp_icmp_ge (pc := 98) (tgt := 140) dX7_pass_98 (by decide) (fun c98 => ?_) (fun c98 => ?_)
      rotate_left
      refine wp_aload_n (pc := 101) (i := 0) dX7_pass_101 rfl rfl ?_
      refine wp_gfr (pc := 102) fk_X7_7 dX7_pass_102 rfl rfl (by decide) ?_
      refine wp_iload_n (pc := 105) (i := 1) dX7_pass_105 rfl rfl ?_
      refine wp_bipush (pc := 106) (v := nI 44) dX7_pass_106 rfl ?_
      first | (with_reducible show WP _ _ _ _ _ _ (Value.int (nI _) :: Value.int (nI _) :: _) _; refine wp_iaddN (pc := 108) dX7_pass_108 ?_) | refine wp_iadd (pc := 108) dX7_pass_108 ?_
      refine wp_iload_n (pc := 109) (i := 2) dX7_pass_109 rfl rfl ?_
      first | (with_reducible show WP _ _ _ _ _ _ (Value.int (nI _) :: Value.int (nI _) :: _) _; refine wp_iaddN (pc := 110) dX7_pass_110 ?_) | refine wp_iadd (pc := 110) dX7_pass_110 ?_
      refine wp_dup2 (pc := 111) dX7_pass_111 rfl rfl ?_
      first | (with_reducible show WP _ _ _ _ _ _ (Value.int (nI _) :: _) _; refine wp_ialdN (pc := 112) dX7_pass_112 rfl (by omega) (by first | with_reducible assumption | with_reducible exact hs_same _ _ _ _ | rfl) ?_) | refine wp_iald (pc := 112) dX7_pass_112 rfl (by assumption) rfl ?_
      refine wp_aload_n (pc := 113) (i := 0) dX7_pass_113 rfl rfl ?_
      refine wp_gfr (pc := 114) fk_X7_7 dX7_pass_114 rfl rfl (by decide) ?_
      refine wp_iload_n (pc := 117) (i := 1) dX7_pass_117 rfl rfl ?_
      refine wp_bipush (pc := 118) (v := nI 44) dX7_pass_118 rfl ?_
      first | (with_reducible show WP _ _ _ _ _ _ (Value.int (nI _) :: Value.int (nI _) :: _) _; refine wp_iaddN (pc := 120) dX7_pass_120 ?_) | refine wp_iadd (pc := 120) dX7_pass_120 ?_
      refine wp_iload_n (pc := 121) (i := 2) dX7_pass_121 rfl rfl ?_
      first | (with_reducible show WP _ _ _ _ _ _ (Value.int (nI _) :: Value.int (nI _) :: _) _; refine wp_iaddN (pc := 122) dX7_pass_122 ?_) | refine wp_iadd (pc := 122) dX7_pass_122 ?_
      first | (with_reducible show WP _ _ _ _ _ _ (Value.int (nI _) :: _) _; refine wp_ialdN (pc := 123) dX7_pass_123 rfl (by omega) (by first | with_reducible assumption | with_reducible exact hs_same _ _ _ _ | rfl) ?_) | refine wp_iald (pc := 123) dX7_pass_123 rfl (by assumption) rfl ?_
      first | (with_reducible show WP _ _ _ _ _ _ (Value.int (nI _) :: _) _; refine wp_if_leN (pc := 124) (tgt := 131) dX7_pass_124 (by decide) (by omega) (fun c124 => ?_) (fun c124 => ?_)) | refine wp_if_le (pc := 124) (tgt := 131) dX7_pass_124 (by decide) (fun c124 => ?_) (fun c124 => ?_)
      refine wp_iconst (pc := 131) (v := nI 0) dX7_pass_131 rfl ?_
      first | (with_reducible show WP _ _ _ _ _ _ (Value.int (nI _) :: Value.int (nI _) :: _) _; refine wp_isubN (pc := 132) dX7_pass_132 (by omega) ?_) | refine wp_isub (pc := 132) dX7_pass_132 ?_
      first | (with_reducible show WP _ _ _ _ _ _ (_ :: Value.int (nI _) :: _) _; refine wp_iastN (pc := 133) dX7_pass_133 rfl (by omega) ?_) | refine wp_iast (pc := 133) dX7_pass_133 rfl (by assumption) rfl ?_
      first | refine wp_iincN (pc := 134) (i := 2) (n := 1) dX7_pass_134 rfl rfl (by decide) rfl ?_ | refine wp_iinc (pc := 134) (i := 2) dX7_pass_134 rfl rfl rfl (by decide) rfl ?_
      dsimp only [List.set_cons_zero, List.set_cons_succ]
      refine wp_goto (pc := 137) (tgt := 89) dX7_pass_137 (by decide) ?_
      rotate_left
      refine wp_iconst (pc := 127) (v := nI 1) dX7_pass_127 rfl ?_
      refine wp_goto (pc := 128) (tgt := 132) dX7_pass_128 (by decide) ?_
      first | (with_reducible show WP _ _ _ _ _ _ (Value.int (nI _) :: Value.int (nI _) :: _) _; refine wp_isubN (pc := 132) dX7_pass_132 (by omega) ?_) | refine wp_isub (pc := 132) dX7_pass_132 ?_
      first | (with_reducible show WP _ _ _ _ _ _ (_ :: Value.int (nI _) :: _) _; refine wp_iastN (pc := 133) dX7_pass_133 rfl (by omega) ?_) | refine wp_iast (pc := 133) dX7_pass_133 rfl (by assumption) rfl ?_
      first | refine wp_iincN (pc := 134) (i := 2) (n := 1) dX7_pass_134 rfl rfl (by decide) rfl ?_ | refine wp_iinc (pc := 134) (i := 2) dX7_pass_134 rfl rfl rfl (by decide) rfl ?_
      dsimp only [List.set_cons_zero, List.set_cons_succ]
      refine wp_goto (pc := 137) (tgt := 89) dX7_pass_137 (by decide) ?_
      rotate_left
      · exact absurd c98 (by omega)
      · exact nx _ (by rw [show v = 0 by omega])
      · exact nx _ rfl
  -- they eat
  have loopB : ∀ m i h1, i + m = T 0 → FB h h1 b → RW h1 b (eaT (vs T (T 1)) i) → WP G (d + 3) mX7_pass (pV K) 54 [some (.ref 89), some (.int (nI b)), some (.int (nI i))] [] h1 := by
    intro m
    induction m with
    | zero =>
      intro i h1 him hF hR1
      have z0 := hR1 0 (by omega)
      rw [eaT_out (by omega) (by omega), x0] at z0
      refine wp_iload_n (pc := 54) (i := 2) dX7_pass_54 rfl rfl ?_
      refine wp_aload_n (pc := 55) (i := 0) dX7_pass_55 rfl rfl ?_
      refine wp_gfr (pc := 56) fk_X7_7 dX7_pass_56 rfl rfl (by decide) ?_
      refine wp_iload_n (pc := 59) (i := 1) dX7_pass_59 rfl rfl ?_
      refine wp_iconst (pc := 60) (v := nI 0) dX7_pass_60 rfl ?_
      first | (with_reducible show WP _ _ _ _ _ _ (Value.int (nI _) :: Value.int (nI _) :: _) _; refine wp_iaddN (pc := 61) dX7_pass_61 ?_) | refine wp_iadd (pc := 61) dX7_pass_61 ?_
      first | (with_reducible show WP _ _ _ _ _ _ (Value.int (nI _) :: _) _; refine wp_ialdN (pc := 62) dX7_pass_62 rfl (by omega) (by first | with_reducible assumption | with_reducible exact hs_same _ _ _ _ | rfl) ?_) | refine wp_iald (pc := 62) dX7_pass_62 rfl (by assumption) rfl ?_
      first | (with_reducible show WP _ _ _ _ _ _ (Value.int (nI _) :: Value.int (nI _) :: _) _; refine wp_icmp_geN (pc := 63) (tgt := 87) dX7_pass_63 (by decide) (by omega) (by omega) (fun c63 => ?_) (fun c63 => ?_)) | refine wp_icmp_ge (pc := 63) (tgt := 87) dX7_pass_63 (by decide) (fun c63 => ?_) (fun c63 => ?_)
      refine wp_iconst (pc := 87) (v := nI 0) dX7_pass_87 rfl ?_
      refine wp_istore_n (pc := 88) (i := 2) dX7_pass_88 rfl rfl (by decide) rfl ?_
      dsimp only [List.set_cons_zero, List.set_cons_succ]
      rotate_left
      rotate_left
      · refine loopC (T 1) 0 _ (by omega) hF ?_
        rw [siT_0, show T 0 = i by omega]
        exact hR1
      · exact absurd him (by omega)
    | succ m ih =>
      intro i h1 him hF hR1
      have hO1 := oke i (by omega)
      have z0 := hR1 0 (by omega)
      rw [eaT_out (by omega) (by omega), x0] at z0
      have z2 := hR1 2 (by omega)
      rw [eaT_out (by omega) (by omega), x2] at z2
      refine wp_iload_n (pc := 54) (i := 2) dX7_pass_54 rfl rfl ?_
      refine wp_aload_n (pc := 55) (i := 0) dX7_pass_55 rfl rfl ?_
      refine wp_gfr (pc := 56) fk_X7_7 dX7_pass_56 rfl rfl (by decide) ?_
      refine wp_iload_n (pc := 59) (i := 1) dX7_pass_59 rfl rfl ?_
      refine wp_iconst (pc := 60) (v := nI 0) dX7_pass_60 rfl ?_
      first | (with_reducible show WP _ _ _ _ _ _ (Value.int (nI _) :: Value.int (nI _) :: _) _; refine wp_iaddN (pc := 61) dX7_pass_61 ?_) | refine wp_iadd (pc := 61) dX7_pass_61 ?_
      first | (with_reducible show WP _ _ _ _ _ _ (Value.int (nI _) :: _) _; refine wp_ialdN (pc := 62) dX7_pass_62 rfl (by omega) (by first | with_reducible assumption | with_reducible exact hs_same _ _ _ _ | rfl) ?_) | refine wp_iald (pc := 62) dX7_pass_62 rfl (by assumption) rfl ?_
      first | (with_reducible show WP _ _ _ _ _ _ (Value.int (nI _) :: Value.int (nI _) :: _) _; refine wp_icmp_geN (pc := 63) (tgt := 87) dX7_pass_63 (by decide) (by omega) (by omega) (fun c63 => ?_) (fun c63 => ?_)) | refine wp_icmp_ge (pc := 63) (tgt := 87) dX7_pass_63 (by decide) (fun c63 => ?_) (fun c63 => ?_)
      rotate_left
      refine wp_aload_n (pc := 66) (i := 0) dX7_pass_66 rfl rfl ?_
      refine wp_iload_n (pc := 67) (i := 1) dX7_pass_67 rfl rfl ?_
      refine wp_iload_n (pc := 68) (i := 2) dX7_pass_68 rfl rfl ?_
      refine wp_aload_n (pc := 69) (i := 0) dX7_pass_69 rfl rfl ?_
      refine wp_gfr (pc := 70) fk_X7_7 dX7_pass_70 rfl rfl (by decide) ?_
      refine wp_iload_n (pc := 73) (i := 1) dX7_pass_73 rfl rfl ?_
      refine wp_iconst (pc := 74) (v := nI 2) dX7_pass_74 rfl ?_
      first | (with_reducible show WP _ _ _ _ _ _ (Value.int (nI _) :: Value.int (nI _) :: _) _; refine wp_iaddN (pc := 75) dX7_pass_75 ?_) | refine wp_iadd (pc := 75) dX7_pass_75 ?_
      first | (with_reducible show WP _ _ _ _ _ _ (Value.int (nI _) :: _) _; refine wp_ialdN (pc := 76) dX7_pass_76 rfl (by omega) (by first | with_reducible assumption | with_reducible exact hs_same _ _ _ _ | rfl) ?_) | refine wp_iald (pc := 76) dX7_pass_76 rfl (by assumption) rfl ?_
      refine wp_ineg (pc := 77) dX7_pass_77 ?_
      refine wp_cV3v (pc := 78) lk_X7_154 dX7_pass_78 rfl rfl rfl (sp7_feedsM hR1 hO1 hb (by omega) (by omega) ?_)
      first | refine wp_iincN (pc := 81) (i := 2) (n := 1) dX7_pass_81 rfl rfl (by decide) rfl ?_ | refine wp_iinc (pc := 81) (i := 2) dX7_pass_81 rfl rfl rfl (by decide) rfl ?_
      dsimp only [List.set_cons_zero, List.set_cons_succ]
      refine wp_goto (pc := 84) (tgt := 54) dX7_pass_84 (by decide) ?_
      rotate_left
      · exact absurd c63 (by omega)
      · refine ih (i + 1) _ (by omega) (hF.hs (by omega) (by omega)) ?_
        have := eaT_succ (T := vs T (T 1)) (i := i) (by omega)
        rw [x2] at this
        rw [this]
        exact RWup2 hR1 (by omega)
  -- they bring
  have loopA : ∀ m i h2, i + m = T 1 → FB h h2 b → RW h2 b (vs T i) → WP G (d + 3) mX7_pass (pV K) 2 [some (.ref 89), some (.int (nI b)), some (.int (nI i))] [] h2 := by
    intro m
    induction m with
    | zero =>
      intro i h2 him hF hR1
      have z1 := hR1 1 (by omega)
      rw [ev i 1 (by omega)] at z1
      refine wp_iload_n (pc := 2) (i := 2) dX7_pass_2 rfl rfl ?_
      refine wp_aload_n (pc := 3) (i := 0) dX7_pass_3 rfl rfl ?_
      refine wp_gfr (pc := 4) fk_X7_7 dX7_pass_4 rfl rfl (by decide) ?_
      refine wp_iload_n (pc := 7) (i := 1) dX7_pass_7 rfl rfl ?_
      refine wp_iconst (pc := 8) (v := nI 1) dX7_pass_8 rfl ?_
      first | (with_reducible show WP _ _ _ _ _ _ (Value.int (nI _) :: Value.int (nI _) :: _) _; refine wp_iaddN (pc := 9) dX7_pass_9 ?_) | refine wp_iadd (pc := 9) dX7_pass_9 ?_
      first | (with_reducible show WP _ _ _ _ _ _ (Value.int (nI _) :: _) _; refine wp_ialdN (pc := 10) dX7_pass_10 rfl (by omega) (by first | with_reducible assumption | with_reducible exact hs_same _ _ _ _ | rfl) ?_) | refine wp_iald (pc := 10) dX7_pass_10 rfl (by assumption) rfl ?_
      first | (with_reducible show WP _ _ _ _ _ _ (Value.int (nI _) :: Value.int (nI _) :: _) _; refine wp_icmp_geN (pc := 11) (tgt := 52) dX7_pass_11 (by decide) (by omega) (by omega) (fun c11 => ?_) (fun c11 => ?_)) | refine wp_icmp_ge (pc := 11) (tgt := 52) dX7_pass_11 (by decide) (fun c11 => ?_) (fun c11 => ?_)
      refine wp_iconst (pc := 52) (v := nI 0) dX7_pass_52 rfl ?_
      refine wp_istore_n (pc := 53) (i := 2) dX7_pass_53 rfl rfl (by decide) rfl ?_
      dsimp only [List.set_cons_zero, List.set_cons_succ]
      rotate_left
      rotate_left
      · refine loopB (T 0) 0 _ (by omega) hF ?_
        rw [eaT_0, show T 1 = i by omega]
        exact hR1
      · exact absurd him (by omega)
    | succ m ih =>
      intro i h2 him hF hR1
      have z1 := hR1 1 (by omega)
      rw [ev i 1 (by omega)] at z1
      have hO1 := okt_vs hO p0 i (by omega)
      have hi1 : i < vs T i 1 := by rw [ev i 1 (by omega)]; omega
      have hh := ih (i + 1)
      have hw0 := wt_eqv (ev i) 0 i
      have hl0 := lz_eqv (ev i) i (T 1)
      rw [lz_br] at hl0
      have hl1 : lz (vs T i) i (vs T i 1) = ((wt T 0 i).isSome && !br T 0 i) := by rw [ev i 1 (by omega)]; exact hl0
      rcases hw : wt T 0 i with _ | c
      · rw [hw] at hw0
        rw [show vs T (i + 1) = vs T i by rw [vs, br_none hw]; rfl] at hh
        refine wp_iload_n (pc := 2) (i := 2) dX7_pass_2 rfl rfl ?_
        refine wp_aload_n (pc := 3) (i := 0) dX7_pass_3 rfl rfl ?_
        refine wp_gfr (pc := 4) fk_X7_7 dX7_pass_4 rfl rfl (by decide) ?_
        refine wp_iload_n (pc := 7) (i := 1) dX7_pass_7 rfl rfl ?_
        refine wp_iconst (pc := 8) (v := nI 1) dX7_pass_8 rfl ?_
        first | (with_reducible show WP _ _ _ _ _ _ (Value.int (nI _) :: Value.int (nI _) :: _) _; refine wp_iaddN (pc := 9) dX7_pass_9 ?_) | refine wp_iadd (pc := 9) dX7_pass_9 ?_
        first | (with_reducible show WP _ _ _ _ _ _ (Value.int (nI _) :: _) _; refine wp_ialdN (pc := 10) dX7_pass_10 rfl (by omega) (by first | with_reducible assumption | with_reducible exact hs_same _ _ _ _ | rfl) ?_) | refine wp_iald (pc := 10) dX7_pass_10 rfl (by assumption) rfl ?_
        first | (with_reducible show WP _ _ _ _ _ _ (Value.int (nI _) :: Value.int (nI _) :: _) _; refine wp_icmp_geN (pc := 11) (tgt := 52) dX7_pass_11 (by decide) (by omega) (by omega) (fun c11 => ?_) (fun c11 => ?_)) | refine wp_icmp_ge (pc := 11) (tgt := 52) dX7_pass_11 (by decide) (fun c11 => ?_) (fun c11 => ?_)
        rotate_left
        refine wp_aload_n (pc := 14) (i := 0) dX7_pass_14 rfl rfl ?_
        refine wp_iload_n (pc := 15) (i := 1) dX7_pass_15 rfl rfl ?_
        refine wp_iload_n (pc := 16) (i := 2) dX7_pass_16 rfl rfl ?_
        refine wp_cV2i (pc := 17) lk_X7_145 dX7_pass_17 rfl rfl rfl (sp7_withOf hR1 hO1 hb hi1 hw0 ?_)
        refine wp_ldc (pc := 20) kn_X7_144 dX7_pass_20 ?_
        first | (with_reducible show WP _ _ _ _ _ _ (Value.int (nI _) :: Value.int (nI _) :: _) _; refine wp_icmp_eqN (pc := 22) (tgt := 46) dX7_pass_22 (by decide) (by omega) (by omega) (fun c22 => ?_) (fun c22 => ?_)) | refine wp_icmp_eq (pc := 22) (tgt := 46) dX7_pass_22 (by decide) (fun c22 => ?_) (fun c22 => ?_)
        first | refine wp_iincN (pc := 46) (i := 2) (n := 1) dX7_pass_46 rfl rfl (by decide) rfl ?_ | refine wp_iinc (pc := 46) (i := 2) dX7_pass_46 rfl rfl rfl (by decide) rfl ?_
        dsimp only [List.set_cons_zero, List.set_cons_succ]
        refine wp_goto (pc := 49) (tgt := 2) dX7_pass_49 (by decide) ?_
        rotate_left
        rotate_left
        · exact absurd c11 (by omega)
        · exact hh _ (by omega) hF hR1
        · exact absurd rfl c22
      · rw [hw] at hw0 hl1
        have hc := wt_lt p0 hw
        have he : hst T 0 i = c := by
          unfold wt at hw
          split at hw
          · cases hw
          · exact Option.some.inj hw
        rcases hbr : br T 0 i with _ | _
        · rw [hbr] at hl1
          rw [show vs T (i + 1) = vs T i by rw [vs, hbr]; rfl] at hh
          refine wp_iload_n (pc := 2) (i := 2) dX7_pass_2 rfl rfl ?_
          refine wp_aload_n (pc := 3) (i := 0) dX7_pass_3 rfl rfl ?_
          refine wp_gfr (pc := 4) fk_X7_7 dX7_pass_4 rfl rfl (by decide) ?_
          refine wp_iload_n (pc := 7) (i := 1) dX7_pass_7 rfl rfl ?_
          refine wp_iconst (pc := 8) (v := nI 1) dX7_pass_8 rfl ?_
          first | (with_reducible show WP _ _ _ _ _ _ (Value.int (nI _) :: Value.int (nI _) :: _) _; refine wp_iaddN (pc := 9) dX7_pass_9 ?_) | refine wp_iadd (pc := 9) dX7_pass_9 ?_
          first | (with_reducible show WP _ _ _ _ _ _ (Value.int (nI _) :: _) _; refine wp_ialdN (pc := 10) dX7_pass_10 rfl (by omega) (by first | with_reducible assumption | with_reducible exact hs_same _ _ _ _ | rfl) ?_) | refine wp_iald (pc := 10) dX7_pass_10 rfl (by assumption) rfl ?_
          first | (with_reducible show WP _ _ _ _ _ _ (Value.int (nI _) :: Value.int (nI _) :: _) _; refine wp_icmp_geN (pc := 11) (tgt := 52) dX7_pass_11 (by decide) (by omega) (by omega) (fun c11 => ?_) (fun c11 => ?_)) | refine wp_icmp_ge (pc := 11) (tgt := 52) dX7_pass_11 (by decide) (fun c11 => ?_) (fun c11 => ?_)
          rotate_left
          refine wp_aload_n (pc := 14) (i := 0) dX7_pass_14 rfl rfl ?_
          refine wp_iload_n (pc := 15) (i := 1) dX7_pass_15 rfl rfl ?_
          refine wp_iload_n (pc := 16) (i := 2) dX7_pass_16 rfl rfl ?_
          refine wp_cV2i (pc := 17) lk_X7_145 dX7_pass_17 rfl rfl rfl (sp7_withOf hR1 hO1 hb hi1 hw0 ?_)
          refine wp_ldc (pc := 20) kn_X7_144 dX7_pass_20 ?_
          first | (with_reducible show WP _ _ _ _ _ _ (Value.int (nI _) :: Value.int (nI _) :: _) _; refine wp_icmp_eqN (pc := 22) (tgt := 46) dX7_pass_22 (by decide) (by omega) (by omega) (fun c22 => ?_) (fun c22 => ?_)) | refine wp_icmp_eq (pc := 22) (tgt := 46) dX7_pass_22 (by decide) (fun c22 => ?_) (fun c22 => ?_)
          first | refine wp_iincN (pc := 46) (i := 2) (n := 1) dX7_pass_46 rfl rfl (by decide) rfl ?_ | refine wp_iinc (pc := 46) (i := 2) dX7_pass_46 rfl rfl rfl (by decide) rfl ?_
          dsimp only [List.set_cons_zero, List.set_cons_succ]
          refine wp_goto (pc := 49) (tgt := 2) dX7_pass_49 (by decide) ?_
          rotate_left
          refine wp_aload_n (pc := 25) (i := 0) dX7_pass_25 rfl rfl ?_
          refine wp_iload_n (pc := 26) (i := 1) dX7_pass_26 rfl rfl ?_
          refine wp_iload_n (pc := 27) (i := 2) dX7_pass_27 rfl rfl ?_
          refine wp_cV2i (pc := 28) lk_X7_161 dX7_pass_28 rfl rfl rfl (sp7_isLost hR1 hO1 hb hi1 hl1 ?_)
          first | (with_reducible show WP _ _ _ _ _ _ (Value.int (bI _) :: _) _; refine wp_if_neB (pc := 31) (tgt := 46) dX7_pass_31 (by decide) (fun c31 => ?_) (fun c31 => ?_)) | (with_reducible show WP _ _ _ _ _ _ (Value.int (nI _) :: _) _; refine wp_if_neN (pc := 31) (tgt := 46) dX7_pass_31 (by decide) (by omega) (fun c31 => ?_) (fun c31 => ?_)) | refine wp_if_ne (pc := 31) (tgt := 46) dX7_pass_31 (by decide) (fun c31 => ?_) (fun c31 => ?_)
          first | refine wp_iincN (pc := 46) (i := 2) (n := 1) dX7_pass_46 rfl rfl (by decide) rfl ?_ | refine wp_iinc (pc := 46) (i := 2) dX7_pass_46 rfl rfl rfl (by decide) rfl ?_
          dsimp only [List.set_cons_zero, List.set_cons_succ]
          refine wp_goto (pc := 49) (tgt := 2) dX7_pass_49 (by decide) ?_
          rotate_left
          rotate_left
          · exact absurd c11 (by omega)
          · exact absurd c22 (nI_none (by omega))
          · exact hh _ (by omega) hF hR1
          · cases c31
        · rw [hbr] at hl1
          rw [show vs T (i + 1) = vis (vs T i) i c by rw [vs, hbr, he]; rfl] at hh
          have hc1 : c < vs T i 0 := by rw [ev i 0 (by omega)]; exact hc
          refine wp_iload_n (pc := 2) (i := 2) dX7_pass_2 rfl rfl ?_
          refine wp_aload_n (pc := 3) (i := 0) dX7_pass_3 rfl rfl ?_
          refine wp_gfr (pc := 4) fk_X7_7 dX7_pass_4 rfl rfl (by decide) ?_
          refine wp_iload_n (pc := 7) (i := 1) dX7_pass_7 rfl rfl ?_
          refine wp_iconst (pc := 8) (v := nI 1) dX7_pass_8 rfl ?_
          first | (with_reducible show WP _ _ _ _ _ _ (Value.int (nI _) :: Value.int (nI _) :: _) _; refine wp_iaddN (pc := 9) dX7_pass_9 ?_) | refine wp_iadd (pc := 9) dX7_pass_9 ?_
          first | (with_reducible show WP _ _ _ _ _ _ (Value.int (nI _) :: _) _; refine wp_ialdN (pc := 10) dX7_pass_10 rfl (by omega) (by first | with_reducible assumption | with_reducible exact hs_same _ _ _ _ | rfl) ?_) | refine wp_iald (pc := 10) dX7_pass_10 rfl (by assumption) rfl ?_
          first | (with_reducible show WP _ _ _ _ _ _ (Value.int (nI _) :: Value.int (nI _) :: _) _; refine wp_icmp_geN (pc := 11) (tgt := 52) dX7_pass_11 (by decide) (by omega) (by omega) (fun c11 => ?_) (fun c11 => ?_)) | refine wp_icmp_ge (pc := 11) (tgt := 52) dX7_pass_11 (by decide) (fun c11 => ?_) (fun c11 => ?_)
          rotate_left
          refine wp_aload_n (pc := 14) (i := 0) dX7_pass_14 rfl rfl ?_
          refine wp_iload_n (pc := 15) (i := 1) dX7_pass_15 rfl rfl ?_
          refine wp_iload_n (pc := 16) (i := 2) dX7_pass_16 rfl rfl ?_
          refine wp_cV2i (pc := 17) lk_X7_145 dX7_pass_17 rfl rfl rfl (sp7_withOf hR1 hO1 hb hi1 hw0 ?_)
          refine wp_ldc (pc := 20) kn_X7_144 dX7_pass_20 ?_
          first | (with_reducible show WP _ _ _ _ _ _ (Value.int (nI _) :: Value.int (nI _) :: _) _; refine wp_icmp_eqN (pc := 22) (tgt := 46) dX7_pass_22 (by decide) (by omega) (by omega) (fun c22 => ?_) (fun c22 => ?_)) | refine wp_icmp_eq (pc := 22) (tgt := 46) dX7_pass_22 (by decide) (fun c22 => ?_) (fun c22 => ?_)
          first | refine wp_iincN (pc := 46) (i := 2) (n := 1) dX7_pass_46 rfl rfl (by decide) rfl ?_ | refine wp_iinc (pc := 46) (i := 2) dX7_pass_46 rfl rfl rfl (by decide) rfl ?_
          dsimp only [List.set_cons_zero, List.set_cons_succ]
          refine wp_goto (pc := 49) (tgt := 2) dX7_pass_49 (by decide) ?_
          rotate_left
          refine wp_aload_n (pc := 25) (i := 0) dX7_pass_25 rfl rfl ?_
          refine wp_iload_n (pc := 26) (i := 1) dX7_pass_26 rfl rfl ?_
          refine wp_iload_n (pc := 27) (i := 2) dX7_pass_27 rfl rfl ?_
          refine wp_cV2i (pc := 28) lk_X7_161 dX7_pass_28 rfl rfl rfl (sp7_isLost hR1 hO1 hb hi1 hl1 ?_)
          first | (with_reducible show WP _ _ _ _ _ _ (Value.int (bI _) :: _) _; refine wp_if_neB (pc := 31) (tgt := 46) dX7_pass_31 (by decide) (fun c31 => ?_) (fun c31 => ?_)) | (with_reducible show WP _ _ _ _ _ _ (Value.int (nI _) :: _) _; refine wp_if_neN (pc := 31) (tgt := 46) dX7_pass_31 (by decide) (by omega) (fun c31 => ?_) (fun c31 => ?_)) | refine wp_if_ne (pc := 31) (tgt := 46) dX7_pass_31 (by decide) (fun c31 => ?_) (fun c31 => ?_)
          first | refine wp_iincN (pc := 46) (i := 2) (n := 1) dX7_pass_46 rfl rfl (by decide) rfl ?_ | refine wp_iinc (pc := 46) (i := 2) dX7_pass_46 rfl rfl rfl (by decide) rfl ?_
          dsimp only [List.set_cons_zero, List.set_cons_succ]
          refine wp_goto (pc := 49) (tgt := 2) dX7_pass_49 (by decide) ?_
          rotate_left
          refine wp_aload_n (pc := 34) (i := 0) dX7_pass_34 rfl rfl ?_
          refine wp_iload_n (pc := 35) (i := 1) dX7_pass_35 rfl rfl ?_
          refine wp_iload_n (pc := 36) (i := 2) dX7_pass_36 rfl rfl ?_
          refine wp_aload_n (pc := 37) (i := 0) dX7_pass_37 rfl rfl ?_
          refine wp_iload_n (pc := 38) (i := 1) dX7_pass_38 rfl rfl ?_
          refine wp_iload_n (pc := 39) (i := 2) dX7_pass_39 rfl rfl ?_
          refine wp_cV2i (pc := 40) lk_X7_145 dX7_pass_40 rfl rfl rfl (sp7_withOf hR1 hO1 hb hi1 hw0 ?_)
          refine wp_cV3v (pc := 43) lk_X7_164 dX7_pass_43 rfl rfl rfl (sp7_brings hR1 hO1 hb hi1 hc1 (fun h3 hR3 hF3 => ?_))
          first | refine wp_iincN (pc := 46) (i := 2) (n := 1) dX7_pass_46 rfl rfl (by decide) rfl ?_ | refine wp_iinc (pc := 46) (i := 2) dX7_pass_46 rfl rfl rfl (by decide) rfl ?_
          dsimp only [List.set_cons_zero, List.set_cons_succ]
          refine wp_goto (pc := 49) (tgt := 2) dX7_pass_49 (by decide) ?_
          rotate_left
          · exact absurd c11 (by omega)
          · exact absurd c22 (nI_none (by omega))
          · cases c31
          · exact hh _ (by omega) (hF.tr hF3) hR3
  refine Call.of (M := mX7_pass) (n := 1) (by decide +kernel) rfl ?_
  show WP _ _ _ _ 0 [some (.ref 89), some (.int (nI b)), none] [] _
  refine wp_iconst (pc := 0) (v := nI 0) dX7_pass_0 rfl ?_
  refine wp_istore_n (pc := 1) (i := 2) dX7_pass_1 rfl rfl (by decide) rfl ?_
  dsimp only [List.set_cons_zero, List.set_cons_succ]
  rotate_left
  exact loopA (T 1) 0 h (by omega) (FB.rf h b) hR
end RPASS
