section RLOST
variable {G : Gt} {d : Nat} {h : Hp} {T : Tn}
/-- whether a town stands, in the reference -/
def RT (h : Hp) (T : Tn) : Prop := h 89 1 = nI (if 0 < T 1 then 1 else 0)
theorem RT.c (H : RT h T) : (T 1 = 0 ∧ h 89 1 = nI 0) ∨ (0 < T 1 ∧ h 89 1 = nI 1) := by
  have := H
  unfold RT at this
  by_cases z : 0 < T 1
  · rw [if_pos z] at this; exact Or.inr ⟨z, this⟩
  · rw [if_neg z] at this; exact Or.inl ⟨by omega, this⟩
theorem sr_lost {n : Int32} {K : Int32 → Hp → Prop} (hR : RW h 0 T) (hI : RT h T) (hO : OKT T) (hd : T 4 ≤ 999) (k : ∀ h', SR h h' → K (fLost T n) h') : Call G (d + 5) mX7_lost [.ref 89, .int n] h (pI K) := by
  obtain ⟨o0, o1, o2, o3, o4, o5, o6, o7, o8⟩ := id hO
  refine Call.of (M := mX7_lost) (n := 3) (by decide +kernel) rfl ?_
  show WP _ _ _ _ 0 [some (.ref 89), some (.int n), none, none, none] [] _
  rcases hI.c with ⟨z, e1⟩ | ⟨z, e1⟩
  · rw [fLost, if_pos z] at k
    refine wp_aload_n (pc := 0) (i := 0) dX7_lost_0 rfl rfl ?_
    refine wp_gfv (pc := 1) fk_X7_136 dX7_lost_1 rfl rfl (by first | with_reducible assumption | with_reducible exact hs_same _ _ _ _ | rfl) ?_
    first | (with_reducible show WP _ _ _ _ _ _ (Value.int (bI _) :: _) _; refine wp_if_neB (pc := 4) (tgt := 10) dX7_lost_4 (by decide) (fun c4 => ?_) (fun c4 => ?_)) | (with_reducible show WP _ _ _ _ _ _ (Value.int (nI _) :: _) _; refine wp_if_neN (pc := 4) (tgt := 10) dX7_lost_4 (by decide) (by omega) (fun c4 => ?_) (fun c4 => ?_)) | refine wp_if_ne (pc := 4) (tgt := 10) dX7_lost_4 (by decide) (fun c4 => ?_) (fun c4 => ?_)
    rotate_left
    refine wp_ldc (pc := 7) kn_X7_143 dX7_lost_7 ?_
    refine wp_iret (pc := 9) dX7_lost_9 rfl ?_
    rotate_left
    · exact absurd rfl c4
    · exact k h (SR.rf h)
  rw [fLost, if_neg (by omega)] at k
  refine wp_aload_n (pc := 0) (i := 0) dX7_lost_0 rfl rfl ?_
  refine wp_gfv (pc := 1) fk_X7_136 dX7_lost_1 rfl rfl (by first | with_reducible assumption | with_reducible exact hs_same _ _ _ _ | rfl) ?_
  first | (with_reducible show WP _ _ _ _ _ _ (Value.int (bI _) :: _) _; refine wp_if_neB (pc := 4) (tgt := 10) dX7_lost_4 (by decide) (fun c4 => ?_) (fun c4 => ?_)) | (with_reducible show WP _ _ _ _ _ _ (Value.int (nI _) :: _) _; refine wp_if_neN (pc := 4) (tgt := 10) dX7_lost_4 (by decide) (by omega) (fun c4 => ?_) (fun c4 => ?_)) | refine wp_if_ne (pc := 4) (tgt := 10) dX7_lost_4 (by decide) (fun c4 => ?_) (fun c4 => ?_)
  refine wp_iload_n (pc := 10) (i := 1) dX7_lost_10 rfl rfl ?_
  first | (with_reducible show WP _ _ _ _ _ _ (Value.int (nI _) :: _) _; refine wp_i2lN (pc := 11) dX7_lost_11 (by omega) ?_) | refine wp_i2l (pc := 11) dX7_lost_11 rfl ?_
  refine wp_lconst (pc := 12) (v := lN 1) dX7_lost_12 rfl ?_
  refine wp_ldc2 (pc := 13) kn_X7_179 dX7_lost_13 ?_
  refine wp_cS3i (pc := 16) lk_X7_48 dX7_lost_16 rfl (sp7_btw (by decide) (by decide) ?_)
  first | (with_reducible show WP _ _ _ _ _ _ (Value.int (bI _) :: _) _; refine wp_if_neB (pc := 19) (tgt := 25) dX7_lost_19 (by decide) (fun c19 => ?_) (fun c19 => ?_)) | (with_reducible show WP _ _ _ _ _ _ (Value.int (nI _) :: _) _; refine wp_if_neN (pc := 19) (tgt := 25) dX7_lost_19 (by decide) (by omega) (fun c19 => ?_) (fun c19 => ?_)) | refine wp_if_ne (pc := 19) (tgt := 25) dX7_lost_19 (by decide) (fun c19 => ?_) (fun c19 => ?_)
  rotate_left
  refine wp_ldc (pc := 22) kn_X7_58 dX7_lost_22 ?_
  refine wp_iret (pc := 24) dX7_lost_24 rfl ?_
  rotate_left
  rotate_left
  rotate_left
  · rw [c19] at k; exact k h (SR.rf h)
  · exact absurd c4 (by decide)
  rw [c19] at k
  obtain ⟨m, -, hm, rfl⟩ := btw_t (by decide) c19
  rw [nI_clamp (by omega)] at k
  have e9 : h 90 1 = nI (T 1) := hR 1 (by omega)
  have loop : ∀ j i h1 L4, i + j = m → RW h1 1512 (itP T i) → FB h h1 1512 → WP G (d + 5) mX7_lost (pI K) 34 [some (.ref 89), some (.int (nI m)), some (.int (nI (smU (fun i => lsn T i) i))), some (.int (nI i)), L4] [] h1 := by
    intro j
    induction j with
    | zero =>
      intro i h1 L4 hij hR1 hf1
      refine wp_iload_n (pc := 34) (i := 3) dX7_lost_34 rfl rfl ?_
      refine wp_iload_n (pc := 35) (i := 1) dX7_lost_35 rfl rfl ?_
      first | (with_reducible show WP _ _ _ _ _ _ (Value.int (nI _) :: Value.int (nI _) :: _) _; refine wp_icmp_geN (pc := 36) (tgt := 92) dX7_lost_36 (by decide) (by omega) (by omega) (fun c36 => ?_) (fun c36 => ?_)) | refine wp_icmp_ge (pc := 36) (tgt := 92) dX7_lost_36 (by decide) (fun c36 => ?_) (fun c36 => ?_)
      refine wp_iload_n (pc := 92) (i := 2) dX7_lost_92 rfl rfl ?_
      refine wp_iret (pc := 93) dX7_lost_93 rfl ?_
      rotate_left
      rotate_left
      · rw [show i = m by omega]; exact k h1 hf1.sr
      · exact absurd hij (by omega)
    | succ j ih =>
      intro i h1 L4 hij hR1 hf1
      obtain ⟨a, b, e⟩ := itP_keep hO z i (by omega)
      have e91 : h1 90 1 = nI (T 1) := by rw [hf1.2 1 (by omega)]; exact e9
      have inner : ∀ q p, p + q = T 1 → WP G (d + 5) mX7_lost (pI K) 42 [some (.ref 89), some (.int (nI m)), some (.int (nI (smU (fun i => lsn T i) i + smU (fun g => if ls T i g then 1 else 0) p))), some (.int (nI i)), some (.int (nI p))] [] h1 := by
        intro q
        induction q with
        | zero =>
          intro p hpq
          refine wp_iload (pc := 42) (i := 4) dX7_lost_42 rfl ?_
          refine wp_aload_n (pc := 44) (i := 0) dX7_lost_44 rfl rfl ?_
          refine wp_gfr (pc := 45) fk_X7_7 dX7_lost_45 rfl rfl (by decide) ?_
          refine wp_iconst (pc := 48) (v := nI 1) dX7_lost_48 rfl ?_
          first | (with_reducible show WP _ _ _ _ _ _ (Value.int (nI _) :: _) _; refine wp_ialdN (pc := 49) dX7_lost_49 rfl (by omega) (by first | with_reducible assumption | with_reducible exact hs_same _ _ _ _ | rfl) ?_) | refine wp_iald (pc := 49) dX7_lost_49 rfl (by assumption) rfl ?_
          first | (with_reducible show WP _ _ _ _ _ _ (Value.int (nI _) :: Value.int (nI _) :: _) _; refine wp_icmp_geN (pc := 50) (tgt := 79) dX7_lost_50 (by decide) (by omega) (by omega) (fun c50 => ?_) (fun c50 => ?_)) | refine wp_icmp_ge (pc := 50) (tgt := 79) dX7_lost_50 (by decide) (fun c50 => ?_) (fun c50 => ?_)
          refine wp_aload_n (pc := 79) (i := 0) dX7_lost_79 rfl rfl ?_
          refine wp_sipush (pc := 80) (v := nI 1512) dX7_lost_80 rfl ?_
          refine wp_cV1v (pc := 83) lk_X7_172 dX7_lost_83 rfl rfl rfl (sp7_pass hR1 a (by omega) (by rw [e 1 (by omega)]; exact z) (by omega) (fun h2 hR2 hf2 => ?_))
          first | refine wp_iincN (pc := 86) (i := 3) (n := 1) dX7_lost_86 rfl rfl (by decide) rfl ?_ | refine wp_iinc (pc := 86) (i := 3) dX7_lost_86 rfl rfl rfl (by decide) rfl ?_
          dsimp only [List.set_cons_zero, List.set_cons_succ]
          refine wp_goto (pc := 89) (tgt := 34) dX7_lost_89 (by decide) ?_
          rotate_left
          rotate_left
          · rw [show p = T 1 by omega]
            exact ih (i + 1) h2 _ (by omega) hR2 (hf1.tr hf2)
          · exact absurd hpq (by omega)
        | succ q ihq =>
          intro p hpq
          have hl : lz (itP T i) p (itP T i 1) = ls T i p := lz_it hO z (by omega) (by omega)
          have w := ihq (p + 1) (by omega)
          rw [show smU (fun g => if ls T i g then 1 else 0) (p + 1) = smU (fun g => if ls T i g then 1 else 0) p + (if ls T i p then 1 else 0) from rfl, ← Nat.add_assoc] at w
          refine wp_iload (pc := 42) (i := 4) dX7_lost_42 rfl ?_
          refine wp_aload_n (pc := 44) (i := 0) dX7_lost_44 rfl rfl ?_
          refine wp_gfr (pc := 45) fk_X7_7 dX7_lost_45 rfl rfl (by decide) ?_
          refine wp_iconst (pc := 48) (v := nI 1) dX7_lost_48 rfl ?_
          first | (with_reducible show WP _ _ _ _ _ _ (Value.int (nI _) :: _) _; refine wp_ialdN (pc := 49) dX7_lost_49 rfl (by omega) (by first | with_reducible assumption | with_reducible exact hs_same _ _ _ _ | rfl) ?_) | refine wp_iald (pc := 49) dX7_lost_49 rfl (by assumption) rfl ?_
          first | (with_reducible show WP _ _ _ _ _ _ (Value.int (nI _) :: Value.int (nI _) :: _) _; refine wp_icmp_geN (pc := 50) (tgt := 79) dX7_lost_50 (by decide) (by omega) (by omega) (fun c50 => ?_) (fun c50 => ?_)) | refine wp_icmp_ge (pc := 50) (tgt := 79) dX7_lost_50 (by decide) (fun c50 => ?_) (fun c50 => ?_)
          rotate_left
          refine wp_iload_n (pc := 53) (i := 2) dX7_lost_53 rfl rfl ?_
          refine wp_aload_n (pc := 54) (i := 0) dX7_lost_54 rfl rfl ?_
          refine wp_sipush (pc := 55) (v := nI 1512) dX7_lost_55 rfl ?_
          refine wp_iload (pc := 58) (i := 4) dX7_lost_58 rfl ?_
          refine wp_cV2i (pc := 60) lk_X7_161 dX7_lost_60 rfl rfl rfl (sp7_isLost hR1 a (by omega) (by rw [e 1 (by omega)]; omega) hl ?_)
          first | (with_reducible show WP _ _ _ _ _ _ (Value.int (bI _) :: _) _; refine wp_if_eqB (pc := 63) (tgt := 70) dX7_lost_63 (by decide) (fun c63 => ?_) (fun c63 => ?_)) | (with_reducible show WP _ _ _ _ _ _ (Value.int (nI _) :: _) _; refine wp_if_eqN (pc := 63) (tgt := 70) dX7_lost_63 (by decide) (by omega) (fun c63 => ?_) (fun c63 => ?_)) | refine wp_if_eq (pc := 63) (tgt := 70) dX7_lost_63 (by decide) (fun c63 => ?_) (fun c63 => ?_)
          refine wp_iconst (pc := 70) (v := nI 0) dX7_lost_70 rfl ?_
          first | (with_reducible show WP _ _ _ _ _ _ (Value.int (nI _) :: Value.int (nI _) :: _) _; refine wp_iaddN (pc := 71) dX7_lost_71 ?_) | refine wp_iadd (pc := 71) dX7_lost_71 ?_
          refine wp_istore_n (pc := 72) (i := 2) dX7_lost_72 rfl rfl (by decide) rfl ?_
          dsimp only [List.set_cons_zero, List.set_cons_succ]
          first | refine wp_iincN (pc := 73) (i := 4) (n := 1) dX7_lost_73 rfl rfl (by decide) rfl ?_ | refine wp_iinc (pc := 73) (i := 4) dX7_lost_73 rfl rfl rfl (by decide) rfl ?_
          dsimp only [List.set_cons_zero, List.set_cons_succ]
          refine wp_goto (pc := 76) (tgt := 42) dX7_lost_76 (by decide) ?_
          rotate_left
          refine wp_iconst (pc := 66) (v := nI 1) dX7_lost_66 rfl ?_
          refine wp_goto (pc := 67) (tgt := 71) dX7_lost_67 (by decide) ?_
          first | (with_reducible show WP _ _ _ _ _ _ (Value.int (nI _) :: Value.int (nI _) :: _) _; refine wp_iaddN (pc := 71) dX7_lost_71 ?_) | refine wp_iadd (pc := 71) dX7_lost_71 ?_
          refine wp_istore_n (pc := 72) (i := 2) dX7_lost_72 rfl rfl (by decide) rfl ?_
          dsimp only [List.set_cons_zero, List.set_cons_succ]
          first | refine wp_iincN (pc := 73) (i := 4) (n := 1) dX7_lost_73 rfl rfl (by decide) rfl ?_ | refine wp_iinc (pc := 73) (i := 4) dX7_lost_73 rfl rfl rfl (by decide) rfl ?_
          dsimp only [List.set_cons_zero, List.set_cons_succ]
          refine wp_goto (pc := 76) (tgt := 42) dX7_lost_76 (by decide) ?_
          rotate_left
          · exact absurd hpq (by omega)
          · rw [c63] at w; exact w
          · rw [c63] at w; exact w
      refine wp_iload_n (pc := 34) (i := 3) dX7_lost_34 rfl rfl ?_
      refine wp_iload_n (pc := 35) (i := 1) dX7_lost_35 rfl rfl ?_
      first | (with_reducible show WP _ _ _ _ _ _ (Value.int (nI _) :: Value.int (nI _) :: _) _; refine wp_icmp_geN (pc := 36) (tgt := 92) dX7_lost_36 (by decide) (by omega) (by omega) (fun c36 => ?_) (fun c36 => ?_)) | refine wp_icmp_ge (pc := 36) (tgt := 92) dX7_lost_36 (by decide) (fun c36 => ?_) (fun c36 => ?_)
      rotate_left
      refine wp_iconst (pc := 39) (v := nI 0) dX7_lost_39 rfl ?_
      refine wp_istore (pc := 40) (i := 4) dX7_lost_40 rfl (by decide) rfl ?_
      dsimp only [List.set_cons_zero, List.set_cons_succ]
      rotate_left
      · exact absurd hij (by omega)
      · exact inner (T 1) 0 (by omega)
  refine wp_aload_n (pc := 25) (i := 0) dX7_lost_25 rfl rfl ?_
  refine wp_iconst (pc := 26) (v := nI 0) dX7_lost_26 rfl ?_
  refine wp_cV1v (pc := 27) lk_X7_197 dX7_lost_27 rfl rfl rfl (sp7_layTried hR hO z (by omega) (by omega) (fun h1 hR1 hf1 => ?_))
  refine wp_iconst (pc := 30) (v := nI 0) dX7_lost_30 rfl ?_
  refine wp_istore_n (pc := 31) (i := 2) dX7_lost_31 rfl rfl (by decide) rfl ?_
  dsimp only [List.set_cons_zero, List.set_cons_succ]
  refine wp_iconst (pc := 32) (v := nI 0) dX7_lost_32 rfl ?_
  refine wp_istore_n (pc := 33) (i := 3) dX7_lost_33 rfl rfl (by decide) rfl ?_
  dsimp only [List.set_cons_zero, List.set_cons_succ]
  rotate_left
  exact loop m 0 h1 _ (by omega) hR1 hf1
theorem sr_even {n : Int32} {K : Int32 → Hp → Prop} (hR : RW h 0 T) (hI : RT h T) (hO : OKT T) (hd : T 4 ≤ 999) (k : ∀ h', SR h h' → K (fEven T n) h') : Call G (d + 5) mX7_even [.ref 89, .int n] h (pI K) := by
  obtain ⟨o0, o1, o2, o3, o4, o5, o6, o7, o8⟩ := id hO
  refine Call.of (M := mX7_even) (n := 4) (by decide +kernel) rfl ?_
  show WP _ _ _ _ 0 [some (.ref 89), some (.int n), none, none, none, none] [] _
  rcases hI.c with ⟨z, e1⟩ | ⟨z, e1⟩
  · rw [fEven, if_pos z] at k
    refine wp_aload_n (pc := 0) (i := 0) dX7_even_0 rfl rfl ?_
    refine wp_gfv (pc := 1) fk_X7_136 dX7_even_1 rfl rfl (by first | with_reducible assumption | with_reducible exact hs_same _ _ _ _ | rfl) ?_
    first | (with_reducible show WP _ _ _ _ _ _ (Value.int (bI _) :: _) _; refine wp_if_neB (pc := 4) (tgt := 10) dX7_even_4 (by decide) (fun c4 => ?_) (fun c4 => ?_)) | (with_reducible show WP _ _ _ _ _ _ (Value.int (nI _) :: _) _; refine wp_if_neN (pc := 4) (tgt := 10) dX7_even_4 (by decide) (by omega) (fun c4 => ?_) (fun c4 => ?_)) | refine wp_if_ne (pc := 4) (tgt := 10) dX7_even_4 (by decide) (fun c4 => ?_) (fun c4 => ?_)
    rotate_left
    refine wp_ldc (pc := 7) kn_X7_143 dX7_even_7 ?_
    refine wp_iret (pc := 9) dX7_even_9 rfl ?_
    rotate_left
    · exact absurd rfl c4
    · exact k h (SR.rf h)
  rw [fEven, if_neg (by omega)] at k
  refine wp_aload_n (pc := 0) (i := 0) dX7_even_0 rfl rfl ?_
  refine wp_gfv (pc := 1) fk_X7_136 dX7_even_1 rfl rfl (by first | with_reducible assumption | with_reducible exact hs_same _ _ _ _ | rfl) ?_
  first | (with_reducible show WP _ _ _ _ _ _ (Value.int (bI _) :: _) _; refine wp_if_neB (pc := 4) (tgt := 10) dX7_even_4 (by decide) (fun c4 => ?_) (fun c4 => ?_)) | (with_reducible show WP _ _ _ _ _ _ (Value.int (nI _) :: _) _; refine wp_if_neN (pc := 4) (tgt := 10) dX7_even_4 (by decide) (by omega) (fun c4 => ?_) (fun c4 => ?_)) | refine wp_if_ne (pc := 4) (tgt := 10) dX7_even_4 (by decide) (fun c4 => ?_) (fun c4 => ?_)
  refine wp_iload_n (pc := 10) (i := 1) dX7_even_10 rfl rfl ?_
  first | (with_reducible show WP _ _ _ _ _ _ (Value.int (nI _) :: _) _; refine wp_i2lN (pc := 11) dX7_even_11 (by omega) ?_) | refine wp_i2l (pc := 11) dX7_even_11 rfl ?_
  refine wp_lconst (pc := 12) (v := lN 0) dX7_even_12 rfl ?_
  refine wp_ldc2 (pc := 13) kn_X7_179 dX7_even_13 ?_
  refine wp_cS3i (pc := 16) lk_X7_48 dX7_even_16 rfl (sp7_btw (by decide) (by decide) ?_)
  first | (with_reducible show WP _ _ _ _ _ _ (Value.int (bI _) :: _) _; refine wp_if_neB (pc := 19) (tgt := 25) dX7_even_19 (by decide) (fun c19 => ?_) (fun c19 => ?_)) | (with_reducible show WP _ _ _ _ _ _ (Value.int (nI _) :: _) _; refine wp_if_neN (pc := 19) (tgt := 25) dX7_even_19 (by decide) (by omega) (fun c19 => ?_) (fun c19 => ?_)) | refine wp_if_ne (pc := 19) (tgt := 25) dX7_even_19 (by decide) (fun c19 => ?_) (fun c19 => ?_)
  rotate_left
  refine wp_ldc (pc := 22) kn_X7_58 dX7_even_22 ?_
  refine wp_iret (pc := 24) dX7_even_24 rfl ?_
  rotate_left
  rotate_left
  rotate_left
  · rw [c19] at k; exact k h (SR.rf h)
  · exact absurd c4 (by decide)
  rw [c19] at k
  obtain ⟨m, -, hm, rfl⟩ := btw_t (by decide) c19
  rw [nI_clamp (by omega)] at k
  obtain ⟨a, b, e⟩ := itP_keep hO z m (by omega)
  have p0 := (o5 z).1
  have hf : ∀ c, c < 5 → fdU (itP T m) c = itP T m (5 + c) := fun c hc => by have := (a.2.2.2.2.2.2.1 c hc).1; unfold fdU; omega
  have hx : ∀ n, mxU (fdU (itP T m)) (n + 1) ≤ 99 ∧ mnU (fdU (itP T m)) (n + 1) ≤ mxU (fdU (itP T m)) (n + 1) := mxn _ (fun i => by unfold fdU; omega)
  have hxx : ∀ n, mxU (fdU (itP T m)) n ≤ 99 ∧ mnU (fdU (itP T m)) n ≤ 99 := fun n => by
    cases n with
    | zero => exact ⟨Nat.zero_le 99, Nat.le_refl 99⟩
    | succ n => have := hx n; omega
  refine wp_aload_n (pc := 25) (i := 0) dX7_even_25 rfl rfl ?_
  refine wp_iload_n (pc := 26) (i := 1) dX7_even_26 rfl rfl ?_
  refine wp_cV1v (pc := 27) lk_X7_197 dX7_even_27 rfl rfl rfl (sp7_layTried hR hO z hm (by omega) (fun h1 hR1 hf1 => ?_))
  rotate_left
  have kk := k h1 hf1.sr
  have e90 : h1 90 0 = nI (T 0) := by rw [hf1.2 0 (by omega)]; exact hR 0 (by omega)
  have r5 : ∀ c, c < T 0 → h1 90 (1517 + c) = nI (fdU (itP T m) c) := fun c hc => by rw [hf c (by omega)]; have := hR1 (5 + c) (by omega); rwa [← Nat.add_assoc] at this
  have loop : ∀ j i L5, i + j = T 0 → WP G (d + 5) mX7_even (pI K) 38 [some (.ref 89), some (.int (nI m)), some (.int (nI (mxU (fdU (itP T m)) i))), some (.int (nI (mnU (fdU (itP T m)) i))), some (.int (nI i)), L5] [] h1 := by
    intro j
    induction j with
    | zero =>
      intro i L5 hij
      have := hx (i - 1)
      rw [show i - 1 + 1 = i by omega] at this
      refine wp_iload (pc := 38) (i := 4) dX7_even_38 rfl ?_
      refine wp_aload_n (pc := 40) (i := 0) dX7_even_40 rfl rfl ?_
      refine wp_gfr (pc := 41) fk_X7_7 dX7_even_41 rfl rfl (by decide) ?_
      refine wp_iconst (pc := 44) (v := nI 0) dX7_even_44 rfl ?_
      first | (with_reducible show WP _ _ _ _ _ _ (Value.int (nI _) :: _) _; refine wp_ialdN (pc := 45) dX7_even_45 rfl (by omega) (by first | with_reducible assumption | with_reducible exact hs_same _ _ _ _ | rfl) ?_) | refine wp_iald (pc := 45) dX7_even_45 rfl (by assumption) rfl ?_
      first | (with_reducible show WP _ _ _ _ _ _ (Value.int (nI _) :: Value.int (nI _) :: _) _; refine wp_icmp_geN (pc := 46) (tgt := 94) dX7_even_46 (by decide) (by omega) (by omega) (fun c46 => ?_) (fun c46 => ?_)) | refine wp_icmp_ge (pc := 46) (tgt := 94) dX7_even_46 (by decide) (fun c46 => ?_) (fun c46 => ?_)
      refine wp_iload_n (pc := 94) (i := 2) dX7_even_94 rfl rfl ?_
      refine wp_iload_n (pc := 95) (i := 3) dX7_even_95 rfl rfl ?_
      first | (with_reducible show WP _ _ _ _ _ _ (Value.int (nI _) :: Value.int (nI _) :: _) _; refine wp_isubN (pc := 96) dX7_even_96 (by omega) ?_) | refine wp_isub (pc := 96) dX7_even_96 ?_
      refine wp_iret (pc := 97) dX7_even_97 rfl ?_
      rotate_left
      rotate_left
      · rw [show T 0 = i by omega] at kk; exact kk
      · exact absurd hij (by omega)
    | succ j ih =>
      intro i L5 hij
      have := hxx i
      have e := r5 i (by omega)
      have := fun c => show fdU (itP T m) c ≤ 99 by unfold fdU; omega
      have := this i
      have w := ih (i + 1) (some (.int (nI (fdU (itP T m) i)))) (by omega)
      rw [show mxU (fdU (itP T m)) (i + 1) = max (mxU (fdU (itP T m)) i) (fdU (itP T m) i) from rfl, show mnU (fdU (itP T m)) (i + 1) = min (mnU (fdU (itP T m)) i) (fdU (itP T m) i) from rfl] at w
      refine wp_iload (pc := 38) (i := 4) dX7_even_38 rfl ?_
      refine wp_aload_n (pc := 40) (i := 0) dX7_even_40 rfl rfl ?_
      refine wp_gfr (pc := 41) fk_X7_7 dX7_even_41 rfl rfl (by decide) ?_
      refine wp_iconst (pc := 44) (v := nI 0) dX7_even_44 rfl ?_
      first | (with_reducible show WP _ _ _ _ _ _ (Value.int (nI _) :: _) _; refine wp_ialdN (pc := 45) dX7_even_45 rfl (by omega) (by first | with_reducible assumption | with_reducible exact hs_same _ _ _ _ | rfl) ?_) | refine wp_iald (pc := 45) dX7_even_45 rfl (by assumption) rfl ?_
      first | (with_reducible show WP _ _ _ _ _ _ (Value.int (nI _) :: Value.int (nI _) :: _) _; refine wp_icmp_geN (pc := 46) (tgt := 94) dX7_even_46 (by decide) (by omega) (by omega) (fun c46 => ?_) (fun c46 => ?_)) | refine wp_icmp_ge (pc := 46) (tgt := 94) dX7_even_46 (by decide) (fun c46 => ?_) (fun c46 => ?_)
      rotate_left
      refine wp_aload_n (pc := 49) (i := 0) dX7_even_49 rfl rfl ?_
      refine wp_gfr (pc := 50) fk_X7_7 dX7_even_50 rfl rfl (by decide) ?_
      refine wp_sipush (pc := 53) (v := nI 1517) dX7_even_53 rfl ?_
      refine wp_iload (pc := 56) (i := 4) dX7_even_56 rfl ?_
      first | (with_reducible show WP _ _ _ _ _ _ (Value.int (nI _) :: Value.int (nI _) :: _) _; refine wp_iaddN (pc := 58) dX7_even_58 ?_) | refine wp_iadd (pc := 58) dX7_even_58 ?_
      first | (with_reducible show WP _ _ _ _ _ _ (Value.int (nI _) :: _) _; refine wp_ialdN (pc := 59) dX7_even_59 rfl (by omega) (by first | with_reducible assumption | with_reducible exact hs_same _ _ _ _ | rfl) ?_) | refine wp_iald (pc := 59) dX7_even_59 rfl (by assumption) rfl ?_
      refine wp_istore (pc := 60) (i := 5) dX7_even_60 rfl (by decide) rfl ?_
      dsimp only [List.set_cons_zero, List.set_cons_succ]
      refine wp_iload (pc := 62) (i := 5) dX7_even_62 rfl ?_
      refine wp_iload_n (pc := 64) (i := 2) dX7_even_64 rfl rfl ?_
      first | (with_reducible show WP _ _ _ _ _ _ (Value.int (nI _) :: Value.int (nI _) :: _) _; refine wp_icmp_leN (pc := 65) (tgt := 73) dX7_even_65 (by decide) (by omega) (by omega) (fun c65 => ?_) (fun c65 => ?_)) | refine wp_icmp_le (pc := 65) (tgt := 73) dX7_even_65 (by decide) (fun c65 => ?_) (fun c65 => ?_)
      refine wp_iload_n (pc := 73) (i := 2) dX7_even_73 rfl rfl ?_
      refine wp_istore_n (pc := 74) (i := 2) dX7_even_74 rfl rfl (by decide) rfl ?_
      dsimp only [List.set_cons_zero, List.set_cons_succ]
      refine wp_iload (pc := 75) (i := 5) dX7_even_75 rfl ?_
      refine wp_iload_n (pc := 77) (i := 3) dX7_even_77 rfl rfl ?_
      first | (with_reducible show WP _ _ _ _ _ _ (Value.int (nI _) :: Value.int (nI _) :: _) _; refine wp_icmp_geN (pc := 78) (tgt := 86) dX7_even_78 (by decide) (by omega) (by omega) (fun c78 => ?_) (fun c78 => ?_)) | refine wp_icmp_ge (pc := 78) (tgt := 86) dX7_even_78 (by decide) (fun c78 => ?_) (fun c78 => ?_)
      refine wp_iload_n (pc := 86) (i := 3) dX7_even_86 rfl rfl ?_
      refine wp_istore_n (pc := 87) (i := 3) dX7_even_87 rfl rfl (by decide) rfl ?_
      dsimp only [List.set_cons_zero, List.set_cons_succ]
      first | refine wp_iincN (pc := 88) (i := 4) (n := 1) dX7_even_88 rfl rfl (by decide) rfl ?_ | refine wp_iinc (pc := 88) (i := 4) dX7_even_88 rfl rfl rfl (by decide) rfl ?_
      dsimp only [List.set_cons_zero, List.set_cons_succ]
      refine wp_goto (pc := 91) (tgt := 38) dX7_even_91 (by decide) ?_
      rotate_left
      refine wp_iload (pc := 81) (i := 5) dX7_even_81 rfl ?_
      refine wp_goto (pc := 83) (tgt := 87) dX7_even_83 (by decide) ?_
      refine wp_istore_n (pc := 87) (i := 3) dX7_even_87 rfl rfl (by decide) rfl ?_
      dsimp only [List.set_cons_zero, List.set_cons_succ]
      first | refine wp_iincN (pc := 88) (i := 4) (n := 1) dX7_even_88 rfl rfl (by decide) rfl ?_ | refine wp_iinc (pc := 88) (i := 4) dX7_even_88 rfl rfl rfl (by decide) rfl ?_
      dsimp only [List.set_cons_zero, List.set_cons_succ]
      refine wp_goto (pc := 91) (tgt := 38) dX7_even_91 (by decide) ?_
      rotate_left
      refine wp_iload (pc := 68) (i := 5) dX7_even_68 rfl ?_
      refine wp_goto (pc := 70) (tgt := 74) dX7_even_70 (by decide) ?_
      refine wp_istore_n (pc := 74) (i := 2) dX7_even_74 rfl rfl (by decide) rfl ?_
      dsimp only [List.set_cons_zero, List.set_cons_succ]
      refine wp_iload (pc := 75) (i := 5) dX7_even_75 rfl ?_
      refine wp_iload_n (pc := 77) (i := 3) dX7_even_77 rfl rfl ?_
      first | (with_reducible show WP _ _ _ _ _ _ (Value.int (nI _) :: Value.int (nI _) :: _) _; refine wp_icmp_geN (pc := 78) (tgt := 86) dX7_even_78 (by decide) (by omega) (by omega) (fun c78 => ?_) (fun c78 => ?_)) | refine wp_icmp_ge (pc := 78) (tgt := 86) dX7_even_78 (by decide) (fun c78 => ?_) (fun c78 => ?_)
      refine wp_iload_n (pc := 86) (i := 3) dX7_even_86 rfl rfl ?_
      refine wp_istore_n (pc := 87) (i := 3) dX7_even_87 rfl rfl (by decide) rfl ?_
      dsimp only [List.set_cons_zero, List.set_cons_succ]
      first | refine wp_iincN (pc := 88) (i := 4) (n := 1) dX7_even_88 rfl rfl (by decide) rfl ?_ | refine wp_iinc (pc := 88) (i := 4) dX7_even_88 rfl rfl rfl (by decide) rfl ?_
      dsimp only [List.set_cons_zero, List.set_cons_succ]
      refine wp_goto (pc := 91) (tgt := 38) dX7_even_91 (by decide) ?_
      rotate_left
      refine wp_iload (pc := 81) (i := 5) dX7_even_81 rfl ?_
      refine wp_goto (pc := 83) (tgt := 87) dX7_even_83 (by decide) ?_
      refine wp_istore_n (pc := 87) (i := 3) dX7_even_87 rfl rfl (by decide) rfl ?_
      dsimp only [List.set_cons_zero, List.set_cons_succ]
      first | refine wp_iincN (pc := 88) (i := 4) (n := 1) dX7_even_88 rfl rfl (by decide) rfl ?_ | refine wp_iinc (pc := 88) (i := 4) dX7_even_88 rfl rfl rfl (by decide) rfl ?_
      dsimp only [List.set_cons_zero, List.set_cons_succ]
      refine wp_goto (pc := 91) (tgt := 38) dX7_even_91 (by decide) ?_
      rotate_left
      · exact absurd hij (by omega)
      · rw [show max (mxU (fdU (itP T m)) i) (fdU (itP T m) i) = mxU (fdU (itP T m)) i by omega, show min (mnU (fdU (itP T m)) i) (fdU (itP T m) i) = mnU (fdU (itP T m)) i by omega] at w; exact w
      · rw [show max (mxU (fdU (itP T m)) i) (fdU (itP T m) i) = mxU (fdU (itP T m)) i by omega, show min (mnU (fdU (itP T m)) i) (fdU (itP T m) i) = fdU (itP T m) i by omega] at w; exact w
      · rw [show max (mxU (fdU (itP T m)) i) (fdU (itP T m) i) = fdU (itP T m) i by omega, show min (mnU (fdU (itP T m)) i) (fdU (itP T m) i) = mnU (fdU (itP T m)) i by omega] at w; exact w
      · rw [show max (mxU (fdU (itP T m)) i) (fdU (itP T m) i) = fdU (itP T m) i by omega, show min (mnU (fdU (itP T m)) i) (fdU (itP T m) i) = fdU (itP T m) i by omega] at w; exact w
  refine wp_iconst (pc := 30) (v := nI 0) dX7_even_30 rfl ?_
  refine wp_istore_n (pc := 31) (i := 2) dX7_even_31 rfl rfl (by decide) rfl ?_
  dsimp only [List.set_cons_zero, List.set_cons_succ]
  refine wp_bipush (pc := 32) (v := nI 99) dX7_even_32 rfl ?_
  refine wp_istore_n (pc := 34) (i := 3) dX7_even_34 rfl rfl (by decide) rfl ?_
  dsimp only [List.set_cons_zero, List.set_cons_succ]
  refine wp_iconst (pc := 35) (v := nI 0) dX7_even_35 rfl ?_
  refine wp_istore (pc := 36) (i := 4) dX7_even_36 rfl (by decide) rfl ?_
  dsimp only [List.set_cons_zero, List.set_cons_succ]
  rotate_left
  exact loop (T 0) 0 _ (by omega)
end RLOST
