def itP (T : Tn) : Nat → Tn
  | 0 => T
  | n + 1 => passT (itP T n)
section TOWN6
variable {G : Gt} {d : Nat} {h : Hp} {t : Nat} {T : Tn}
theorem sp_passDay {K : Hp → Prop} (hT : isT t) (hW : TW h t T) (hO : OKT T) (h0 : 0 < T 1) (hd : T 4 < 1200) (k : ∀ h', TW h' t (passT T) → Fr h h' t → K h') : Call G (d + 3) mX5_passDay [.ref t] h (pV K) := by
  obtain ⟨ht, s0, s1, s2, s3, s4, s5, s6, s7, s8, s9, s10, s11⟩ := id hT
  obtain ⟨o0, o1, o2, o3, o4, o5, o6, o7, o8⟩ := id hO
  have p0 := (o5 h0).1
  have hq := pass_eq p0 hO
  have okv := okt_vs hO p0 (T 1) (Nat.le_refl _)
  have ev : ∀ i, eqv T (vs T i) := fun i j hj => vs_out o0 p0 hj i
  have x0 : vs T (T 1) 0 = T 0 := ev _ 0 (by omega)
  have x1 : vs T (T 1) 1 = T 1 := ev _ 1 (by omega)
  have x2 : vs T (T 1) 2 = T 2 := ev _ 2 (by omega)
  have x4 : vs T (T 1) 4 = T 4 := ev _ 4 (by omega)
  have oke := okt_ea okv
  -- the sick
  have loopC : ∀ m i h1, i + m = T 1 → Fr h h1 t → TW h1 t (siT (up (eaT (vs T (T 1)) (T 0)) 4 (T 4 + 1)) i) → WP G (d + 3) mX5_passDay (pV K) 78 [some (.ref t), some (.int (nI i))] [] h1 := by
    have okd := okt_day (v := T 4 + 1) (oke (T 0) (by omega)) (by omega)
    have y1 : up (eaT (vs T (T 1)) (T 0)) 4 (T 4 + 1) 1 = T 1 := by rw [up_ne (by decide), eaT_out o0 (by omega), x1]
    intro m
    induction m with
    | zero =>
      intro i h1 him hF hW1
      have z1 : siT (up (eaT (vs T (T 1)) (T 0)) 4 (T 4 + 1)) i 1 = T 1 := by rw [siT_out (by omega) (by omega), y1]
      obtain ⟨e0, e1, e2, e3, e4, e5, e6, e7, e8, e9, e10, e11, e12, e13⟩ := id hW1
      rw [z1] at e3
      refine wp_iload_n (pc := 78) (i := 1) dX5_passDay_78 rfl rfl ?_
      refine wp_aload_n (pc := 79) (i := 0) dX5_passDay_79 rfl rfl ?_
      refine wp_gfv (pc := 80) fk_X5_49 dX5_passDay_80 s0 rfl (by first | with_reducible assumption | with_reducible exact hs_same _ _ _ _ | rfl) ?_
      first | (with_reducible show WP _ _ _ _ _ _ (Value.int (nI _) :: Value.int (nI _) :: _) _; refine wp_icmp_geN (pc := 83) (tgt := 110) dX5_passDay_83 (by decide) (by omega) (by omega) (fun c83 => ?_) (fun c83 => ?_)) | refine wp_icmp_ge (pc := 83) (tgt := 110) dX5_passDay_83 (by decide) (fun c83 => ?_) (fun c83 => ?_)
      refine wp_vret (pc := 110) dX5_passDay_110 rfl ?_
      rotate_left
      rotate_left
      · rw [show i = T 1 by omega, ← hq] at hW1
        exact k h1 hW1 hF
      · exact absurd him (by omega)
    | succ m ih =>
      intro i h1 him hF hW1
      have z1 : siT (up (eaT (vs T (T 1)) (T 0)) 4 (T 4 + 1)) i 1 = T 1 := by rw [siT_out (by omega) (by omega), y1]
      have hO1 := okt_si okd i (by rw [y1]; omega)
      obtain ⟨e0, e1, e2, e3, e4, e5, e6, e7, e8, e9, e10, e11, e12, e13⟩ := id hW1
      rw [z1] at e3
      have b1 := (hO1.2.2.2.2.2.2.2.1 i (by rw [z1]; omega)).2.2.2.2.1
      have r12 := e12 i (by rw [z1]; omega)
      generalize hv : siT (up (eaT (vs T (T 1)) (T 0)) 4 (T 4 + 1)) i (44 + i) = v at r12 b1
      have nx : ∀ w : Int32, w = nI (v - 1) → WP G (d + 3) mX5_passDay (pV K) 78 [some (.ref t), some (.int (nI (i + 1)))] [] (hs h1 (t + 8) i w) := fun w hw => by
        rw [hw]
        refine ih (i + 1) _ (by omega) (hF.hs (by omega) (by omega)) ?_
        rw [siT_succ, hv]
        exact hW1.ill hO1 (by rw [z1]; omega)
      by_cases hv0 : 1 ≤ v
      · refine wp_iload_n (pc := 78) (i := 1) dX5_passDay_78 rfl rfl ?_
        refine wp_aload_n (pc := 79) (i := 0) dX5_passDay_79 rfl rfl ?_
        refine wp_gfv (pc := 80) fk_X5_49 dX5_passDay_80 s0 rfl (by first | with_reducible assumption | with_reducible exact hs_same _ _ _ _ | rfl) ?_
        first | (with_reducible show WP _ _ _ _ _ _ (Value.int (nI _) :: Value.int (nI _) :: _) _; refine wp_icmp_geN (pc := 83) (tgt := 110) dX5_passDay_83 (by decide) (by omega) (by omega) (fun c83 => ?_) (fun c83 => ?_)) | refine wp_icmp_ge (pc := 83) (tgt := 110) dX5_passDay_83 (by decide) (fun c83 => ?_) (fun c83 => ?_)
        rotate_left
        refine wp_aload_n (pc := 86) (i := 0) dX5_passDay_86 rfl rfl ?_
        refine wp_gfr (pc := 87) fk_X5_33 dX5_passDay_87 s0 rfl (by omega) ?_
        refine wp_iload_n (pc := 90) (i := 1) dX5_passDay_90 rfl rfl ?_
        refine wp_aload_n (pc := 91) (i := 0) dX5_passDay_91 rfl rfl ?_
        refine wp_gfr (pc := 92) fk_X5_33 dX5_passDay_92 s0 rfl (by omega) ?_
        refine wp_iload_n (pc := 95) (i := 1) dX5_passDay_95 rfl rfl ?_
        first | (with_reducible show WP _ _ _ _ _ _ (Value.int (nI _) :: _) _; refine wp_ialdN (pc := 96) dX5_passDay_96 s8 (by omega) (by first | with_reducible assumption | with_reducible exact hs_same _ _ _ _ | rfl) ?_) | refine wp_iald (pc := 96) dX5_passDay_96 s8 (by assumption) rfl ?_
        refine wp_iconst (pc := 97) (v := nI 1) dX5_passDay_97 rfl ?_
        first | (with_reducible show WP _ _ _ _ _ _ (Value.int (nI _) :: Value.int (nI _) :: _) _; refine wp_isubN (pc := 98) dX5_passDay_98 (by omega) ?_) | refine wp_isub (pc := 98) dX5_passDay_98 ?_
        refine wp_iconst (pc := 99) (v := nI 0) dX5_passDay_99 rfl ?_
        first | (with_reducible show WP _ _ _ _ _ _ (Value.int (nI _) :: Value.int (nI _) :: _) _; refine wp_maxN (pc := 100) lk_X5_88 dX5_passDay_100 (by omega) (by omega) rfl ?_) | refine wp_max (pc := 100) lk_X5_88 dX5_passDay_100 rfl ?_
        first | (with_reducible show WP _ _ _ _ _ _ (_ :: Value.int (nI _) :: _) _; refine wp_iastN (pc := 103) dX5_passDay_103 s8 (by omega) ?_) | refine wp_iast (pc := 103) dX5_passDay_103 s8 (by assumption) rfl ?_
        first | refine wp_iincN (pc := 104) (i := 1) (n := 1) dX5_passDay_104 rfl rfl (by decide) rfl ?_ | refine wp_iinc (pc := 104) (i := 1) dX5_passDay_104 rfl rfl rfl (by decide) rfl ?_
        dsimp only [List.set_cons_zero, List.set_cons_succ]
        refine wp_goto (pc := 107) (tgt := 78) dX5_passDay_107 (by decide) ?_
        rotate_left
        · exact absurd c83 (by omega)
        · exact nx _ (if_neg (nI_nlt (by omega) (by omega)))
      · have v0 : v = 0 := by omega
        subst v0
        refine wp_iload_n (pc := 78) (i := 1) dX5_passDay_78 rfl rfl ?_
        refine wp_aload_n (pc := 79) (i := 0) dX5_passDay_79 rfl rfl ?_
        refine wp_gfv (pc := 80) fk_X5_49 dX5_passDay_80 s0 rfl (by first | with_reducible assumption | with_reducible exact hs_same _ _ _ _ | rfl) ?_
        first | (with_reducible show WP _ _ _ _ _ _ (Value.int (nI _) :: Value.int (nI _) :: _) _; refine wp_icmp_geN (pc := 83) (tgt := 110) dX5_passDay_83 (by decide) (by omega) (by omega) (fun c83 => ?_) (fun c83 => ?_)) | refine wp_icmp_ge (pc := 83) (tgt := 110) dX5_passDay_83 (by decide) (fun c83 => ?_) (fun c83 => ?_)
        rotate_left
        refine wp_aload_n (pc := 86) (i := 0) dX5_passDay_86 rfl rfl ?_
        refine wp_gfr (pc := 87) fk_X5_33 dX5_passDay_87 s0 rfl (by omega) ?_
        refine wp_iload_n (pc := 90) (i := 1) dX5_passDay_90 rfl rfl ?_
        refine wp_aload_n (pc := 91) (i := 0) dX5_passDay_91 rfl rfl ?_
        refine wp_gfr (pc := 92) fk_X5_33 dX5_passDay_92 s0 rfl (by omega) ?_
        refine wp_iload_n (pc := 95) (i := 1) dX5_passDay_95 rfl rfl ?_
        first | (with_reducible show WP _ _ _ _ _ _ (Value.int (nI _) :: _) _; refine wp_ialdN (pc := 96) dX5_passDay_96 s8 (by omega) (by first | with_reducible assumption | with_reducible exact hs_same _ _ _ _ | rfl) ?_) | refine wp_iald (pc := 96) dX5_passDay_96 s8 (by assumption) rfl ?_
        refine wp_iconst (pc := 97) (v := nI 1) dX5_passDay_97 rfl ?_
        first | (with_reducible show WP _ _ _ _ _ _ (Value.int (nI _) :: Value.int (nI _) :: _) _; refine wp_isubN (pc := 98) dX5_passDay_98 (by omega) ?_) | refine wp_isub (pc := 98) dX5_passDay_98 ?_
        refine wp_iconst (pc := 99) (v := nI 0) dX5_passDay_99 rfl ?_
        first | (with_reducible show WP _ _ _ _ _ _ (Value.int (nI _) :: Value.int (nI _) :: _) _; refine wp_maxN (pc := 100) lk_X5_88 dX5_passDay_100 (by omega) (by omega) rfl ?_) | refine wp_max (pc := 100) lk_X5_88 dX5_passDay_100 rfl ?_
        first | (with_reducible show WP _ _ _ _ _ _ (_ :: Value.int (nI _) :: _) _; refine wp_iastN (pc := 103) dX5_passDay_103 s8 (by omega) ?_) | refine wp_iast (pc := 103) dX5_passDay_103 s8 (by assumption) rfl ?_
        first | refine wp_iincN (pc := 104) (i := 1) (n := 1) dX5_passDay_104 rfl rfl (by decide) rfl ?_ | refine wp_iinc (pc := 104) (i := 1) dX5_passDay_104 rfl rfl rfl (by decide) rfl ?_
        dsimp only [List.set_cons_zero, List.set_cons_succ]
        refine wp_goto (pc := 107) (tgt := 78) dX5_passDay_107 (by decide) ?_
        rotate_left
        · exact absurd c83 (by omega)
        · exact nx _ (by decide)
  -- they eat
  have loopB : ∀ m i h1, i + m = T 0 → Fr h h1 t → TW h1 t (eaT (vs T (T 1)) i) → WP G (d + 3) mX5_passDay (pV K) 42 [some (.ref t), some (.int (nI i))] [] h1 := by
    intro m
    induction m with
    | zero =>
      intro i h1 him hF hW1
      obtain ⟨e0, e1, e2, e3, e4, e5, e6, e7, e8, e9, e10, e11, e12, e13⟩ := id hW1
      rw [eaT_out (by omega) (by omega), x0] at e2
      rw [eaT_out (by omega) (by omega), x4] at e4
      refine wp_iload_n (pc := 42) (i := 1) dX5_passDay_42 rfl rfl ?_
      refine wp_aload_n (pc := 43) (i := 0) dX5_passDay_43 rfl rfl ?_
      refine wp_gfv (pc := 44) fk_X5_45 dX5_passDay_44 s0 rfl (by first | with_reducible assumption | with_reducible exact hs_same _ _ _ _ | rfl) ?_
      first | (with_reducible show WP _ _ _ _ _ _ (Value.int (nI _) :: Value.int (nI _) :: _) _; refine wp_icmp_geN (pc := 47) (tgt := 66) dX5_passDay_47 (by decide) (by omega) (by omega) (fun c47 => ?_) (fun c47 => ?_)) | refine wp_icmp_ge (pc := 47) (tgt := 66) dX5_passDay_47 (by decide) (fun c47 => ?_) (fun c47 => ?_)
      refine wp_aload_n (pc := 66) (i := 0) dX5_passDay_66 rfl rfl ?_
      refine wp_dup (pc := 67) dX5_passDay_67 rfl ?_
      refine wp_gfv (pc := 68) fk_X5_58 dX5_passDay_68 s0 rfl (by first | with_reducible assumption | with_reducible exact hs_same _ _ _ _ | rfl) ?_
      refine wp_iconst (pc := 71) (v := nI 1) dX5_passDay_71 rfl ?_
      first | (with_reducible show WP _ _ _ _ _ _ (Value.int (nI _) :: Value.int (nI _) :: _) _; refine wp_iaddN (pc := 72) dX5_passDay_72 ?_) | refine wp_iadd (pc := 72) dX5_passDay_72 ?_
      refine wp_pf (pc := 73) fp_X5_58 dX5_passDay_73 s0 rfl rfl rfl ?_
      refine wp_iconst (pc := 76) (v := nI 0) dX5_passDay_76 rfl ?_
      refine wp_istore_n (pc := 77) (i := 1) dX5_passDay_77 rfl rfl (by decide) rfl ?_
      dsimp only [List.set_cons_zero, List.set_cons_succ]
      rotate_left
      rotate_left
      · refine loopC (T 1) 0 _ (by omega) (hF.hs (by omega) (by omega)) ?_
        rw [siT_0]
        rw [show i = T 0 by omega] at hW1
        exact hW1.day
      · exact absurd him (by omega)
    | succ m ih =>
      intro i h1 him hF hW1
      obtain ⟨e0, e1, e2, e3, e4, e5, e6, e7, e8, e9, e10, e11, e12, e13⟩ := id hW1
      have hO1 := oke i (by omega)
      rw [eaT_out (by omega) (by omega), x0] at e2
      rw [eaT_out (by omega) (by omega), x2] at e0
      have hc1 : i < eaT (vs T (T 1)) i 0 := by rw [eaT_out (by omega) (by omega), x0]; omega
      refine wp_iload_n (pc := 42) (i := 1) dX5_passDay_42 rfl rfl ?_
      refine wp_aload_n (pc := 43) (i := 0) dX5_passDay_43 rfl rfl ?_
      refine wp_gfv (pc := 44) fk_X5_45 dX5_passDay_44 s0 rfl (by first | with_reducible assumption | with_reducible exact hs_same _ _ _ _ | rfl) ?_
      first | (with_reducible show WP _ _ _ _ _ _ (Value.int (nI _) :: Value.int (nI _) :: _) _; refine wp_icmp_geN (pc := 47) (tgt := 66) dX5_passDay_47 (by decide) (by omega) (by omega) (fun c47 => ?_) (fun c47 => ?_)) | refine wp_icmp_ge (pc := 47) (tgt := 66) dX5_passDay_47 (by decide) (fun c47 => ?_) (fun c47 => ?_)
      rotate_left
      refine wp_aload_n (pc := 50) (i := 0) dX5_passDay_50 rfl rfl ?_
      refine wp_iload_n (pc := 51) (i := 1) dX5_passDay_51 rfl rfl ?_
      refine wp_aload_n (pc := 52) (i := 0) dX5_passDay_52 rfl rfl ?_
      refine wp_gfv (pc := 53) fk_X5_52 dX5_passDay_53 s0 rfl (by first | with_reducible assumption | with_reducible exact hs_same _ _ _ _ | rfl) ?_
      refine wp_ineg (pc := 56) dX5_passDay_56 ?_
      refine wp_cV2v (pc := 57) lk_X5_85 dX5_passDay_57 s0 rfl rfl (sp_addFedM hT hW1 hO1 hc1 (by omega) ?_)
      first | refine wp_iincN (pc := 60) (i := 1) (n := 1) dX5_passDay_60 rfl rfl (by decide) rfl ?_ | refine wp_iinc (pc := 60) (i := 1) dX5_passDay_60 rfl rfl rfl (by decide) rfl ?_
      dsimp only [List.set_cons_zero, List.set_cons_succ]
      refine wp_goto (pc := 63) (tgt := 42) dX5_passDay_63 (by decide) ?_
      rotate_left
      · exact absurd c47 (by omega)
      · refine ih (i + 1) _ (by omega) (hF.hs (by omega) (by omega)) ?_
        have := eaT_succ (T := vs T (T 1)) (i := i) (by omega)
        rw [x2] at this
        rw [this]
        exact hW1.fed hO1 hc1
  refine Call.of (M := mX5_passDay) (n := 1) (by decide +kernel) rfl ?_
  show WP _ _ _ _ 0 [some (.ref t), none] [] _
  refine wp_aload_n (pc := 0) (i := 0) dX5_passDay_0 rfl rfl ?_
  refine wp_iconst (pc := 1) (v := nI 0) dX5_passDay_1 rfl ?_
  refine wp_cV1v (pc := 2) lk_X5_66 dX5_passDay_2 s0 rfl rfl ?_
  rotate_left
  refine sp_seat hT hW hO (by omega) (fun h1 hs1 => ?_)
  -- they bring
  have loopA : ∀ m i h2, i + m = T 1 → Fr h h2 t → (h2 (t + 10) = h1 (t + 10) ∧ h2 (t + 11) = h1 (t + 11)) → TW h2 t (vs T i) → WP G (d + 3) mX5_passDay (pV K) 7 [some (.ref t), some (.int (nI i))] [] h2 := by
    intro m
    induction m with
    | zero =>
      intro i h2 him hF hH hW1
      obtain ⟨e0, e1, e2, e3, e4, e5, e6, e7, e8, e9, e10, e11, e12, e13⟩ := id hW1
      rw [ev i 1 (by omega)] at e3
      refine wp_iload_n (pc := 7) (i := 1) dX5_passDay_7 rfl rfl ?_
      refine wp_aload_n (pc := 8) (i := 0) dX5_passDay_8 rfl rfl ?_
      refine wp_gfv (pc := 9) fk_X5_49 dX5_passDay_9 s0 rfl (by first | with_reducible assumption | with_reducible exact hs_same _ _ _ _ | rfl) ?_
      first | (with_reducible show WP _ _ _ _ _ _ (Value.int (nI _) :: Value.int (nI _) :: _) _; refine wp_icmp_geN (pc := 12) (tgt := 40) dX5_passDay_12 (by decide) (by omega) (by omega) (fun c12 => ?_) (fun c12 => ?_)) | refine wp_icmp_ge (pc := 12) (tgt := 40) dX5_passDay_12 (by decide) (fun c12 => ?_) (fun c12 => ?_)
      refine wp_iconst (pc := 40) (v := nI 0) dX5_passDay_40 rfl ?_
      refine wp_istore_n (pc := 41) (i := 1) dX5_passDay_41 rfl rfl (by decide) rfl ?_
      dsimp only [List.set_cons_zero, List.set_cons_succ]
      rotate_left
      rotate_left
      · refine loopB (T 0) 0 _ (by omega) hF ?_
        rw [eaT_0]
        rw [show i = T 1 by omega] at hW1
        exact hW1
      · exact absurd him (by omega)
    | succ m ih =>
      intro i h2 him hF hH hW1
      obtain ⟨e0, e1, e2, e3, e4, e5, e6, e7, e8, e9, e10, e11, e12, e13⟩ := id hW1
      rw [ev i 1 (by omega)] at e3
      have hO1 := okt_vs hO p0 i (by omega)
      have hL1 : LD h2 t (vs T i) 0 := (LD.eqv (ev i) hs1.ld).cg hH.1 hH.2
      have hi1 : i < vs T i 1 := by rw [ev i 1 (by omega)]; omega
      have hh := ih (i + 1)
      have hb0 := br_eqv (ev i) 0 i
      rcases hb : br T 0 i with _ | _
      · rw [hb] at hb0
        rw [show vs T (i + 1) = vs T i by rw [vs, hb]; rfl] at hh
        refine wp_iload_n (pc := 7) (i := 1) dX5_passDay_7 rfl rfl ?_
        refine wp_aload_n (pc := 8) (i := 0) dX5_passDay_8 rfl rfl ?_
        refine wp_gfv (pc := 9) fk_X5_49 dX5_passDay_9 s0 rfl (by first | with_reducible assumption | with_reducible exact hs_same _ _ _ _ | rfl) ?_
        first | (with_reducible show WP _ _ _ _ _ _ (Value.int (nI _) :: Value.int (nI _) :: _) _; refine wp_icmp_geN (pc := 12) (tgt := 40) dX5_passDay_12 (by decide) (by omega) (by omega) (fun c12 => ?_) (fun c12 => ?_)) | refine wp_icmp_ge (pc := 12) (tgt := 40) dX5_passDay_12 (by decide) (fun c12 => ?_) (fun c12 => ?_)
        rotate_left
        refine wp_aload_n (pc := 15) (i := 0) dX5_passDay_15 rfl rfl ?_
        refine wp_iload_n (pc := 16) (i := 1) dX5_passDay_16 rfl rfl ?_
        refine wp_cV1i (pc := 17) lk_X5_70 dX5_passDay_17 s0 rfl rfl (sp_bringsE hT hW1 hO1 hL1 hi1 hb0 ?_)
        first | (with_reducible show WP _ _ _ _ _ _ (Value.int (bI _) :: _) _; refine wp_if_eqB (pc := 20) (tgt := 34) dX5_passDay_20 (by decide) (fun c20 => ?_) (fun c20 => ?_)) | (with_reducible show WP _ _ _ _ _ _ (Value.int (nI _) :: _) _; refine wp_if_eqN (pc := 20) (tgt := 34) dX5_passDay_20 (by decide) (by omega) (fun c20 => ?_) (fun c20 => ?_)) | refine wp_if_eq (pc := 20) (tgt := 34) dX5_passDay_20 (by decide) (fun c20 => ?_) (fun c20 => ?_)
        first | refine wp_iincN (pc := 34) (i := 1) (n := 1) dX5_passDay_34 rfl rfl (by decide) rfl ?_ | refine wp_iinc (pc := 34) (i := 1) dX5_passDay_34 rfl rfl rfl (by decide) rfl ?_
        dsimp only [List.set_cons_zero, List.set_cons_succ]
        refine wp_goto (pc := 37) (tgt := 7) dX5_passDay_37 (by decide) ?_
        rotate_left
        rotate_left
        · exact absurd c12 (by omega)
        · exact hh _ (by omega) hF hH hW1
        · cases c20
      · rw [hb] at hb0
        rcases hw : wt T 0 i with _ | c
        · rw [br_none hw] at hb; cases hb
        · have hc := wt_lt p0 hw
          have he : hst T 0 i = c := by
            unfold wt at hw
            split at hw
            · cases hw
            · exact Option.some.inj hw
          rw [show vs T (i + 1) = vis (vs T i) i c by rw [vs, hb, he]; rfl] at hh
          have q1 : h2 (t + 10) i = nI c := by rw [hH.1, hs1.2.1 i (by omega), hw]; rfl
          have hc1 : c < vs T i 0 := by rw [ev i 0 (by omega)]; exact hc
          refine wp_iload_n (pc := 7) (i := 1) dX5_passDay_7 rfl rfl ?_
          refine wp_aload_n (pc := 8) (i := 0) dX5_passDay_8 rfl rfl ?_
          refine wp_gfv (pc := 9) fk_X5_49 dX5_passDay_9 s0 rfl (by first | with_reducible assumption | with_reducible exact hs_same _ _ _ _ | rfl) ?_
          first | (with_reducible show WP _ _ _ _ _ _ (Value.int (nI _) :: Value.int (nI _) :: _) _; refine wp_icmp_geN (pc := 12) (tgt := 40) dX5_passDay_12 (by decide) (by omega) (by omega) (fun c12 => ?_) (fun c12 => ?_)) | refine wp_icmp_ge (pc := 12) (tgt := 40) dX5_passDay_12 (by decide) (fun c12 => ?_) (fun c12 => ?_)
          rotate_left
          refine wp_aload_n (pc := 15) (i := 0) dX5_passDay_15 rfl rfl ?_
          refine wp_iload_n (pc := 16) (i := 1) dX5_passDay_16 rfl rfl ?_
          refine wp_cV1i (pc := 17) lk_X5_70 dX5_passDay_17 s0 rfl rfl (sp_bringsE hT hW1 hO1 hL1 hi1 hb0 ?_)
          first | (with_reducible show WP _ _ _ _ _ _ (Value.int (bI _) :: _) _; refine wp_if_eqB (pc := 20) (tgt := 34) dX5_passDay_20 (by decide) (fun c20 => ?_) (fun c20 => ?_)) | (with_reducible show WP _ _ _ _ _ _ (Value.int (nI _) :: _) _; refine wp_if_eqN (pc := 20) (tgt := 34) dX5_passDay_20 (by decide) (by omega) (fun c20 => ?_) (fun c20 => ?_)) | refine wp_if_eq (pc := 20) (tgt := 34) dX5_passDay_20 (by decide) (fun c20 => ?_) (fun c20 => ?_)
          first | refine wp_iincN (pc := 34) (i := 1) (n := 1) dX5_passDay_34 rfl rfl (by decide) rfl ?_ | refine wp_iinc (pc := 34) (i := 1) dX5_passDay_34 rfl rfl rfl (by decide) rfl ?_
          dsimp only [List.set_cons_zero, List.set_cons_succ]
          refine wp_goto (pc := 37) (tgt := 7) dX5_passDay_37 (by decide) ?_
          rotate_left
          refine wp_aload_n (pc := 23) (i := 0) dX5_passDay_23 rfl rfl ?_
          refine wp_iload_n (pc := 24) (i := 1) dX5_passDay_24 rfl rfl ?_
          refine wp_aload_n (pc := 25) (i := 0) dX5_passDay_25 rfl rfl ?_
          refine wp_gfr (pc := 26) fk_X5_39 dX5_passDay_26 s0 rfl (by omega) ?_
          refine wp_iload_n (pc := 29) (i := 1) dX5_passDay_29 rfl rfl ?_
          first | (with_reducible show WP _ _ _ _ _ _ (Value.int (nI _) :: _) _; refine wp_ialdN (pc := 30) dX5_passDay_30 s10 (by omega) (by first | with_reducible assumption | with_reducible exact hs_same _ _ _ _ | rfl) ?_) | refine wp_iald (pc := 30) dX5_passDay_30 s10 (by assumption) rfl ?_
          refine wp_cV2v (pc := 31) lk_X5_81 dX5_passDay_31 s0 rfl rfl (sp_visit hT hW1 hO1 hi1 hc1 (fun h3 hW3 hF3 => ?_))
          first | refine wp_iincN (pc := 34) (i := 1) (n := 1) dX5_passDay_34 rfl rfl (by decide) rfl ?_ | refine wp_iinc (pc := 34) (i := 1) dX5_passDay_34 rfl rfl rfl (by decide) rfl ?_
          dsimp only [List.set_cons_zero, List.set_cons_succ]
          refine wp_goto (pc := 37) (tgt := 7) dX5_passDay_37 (by decide) ?_
          rotate_left
          · exact absurd c12 (by omega)
          · cases c20
          · exact hh _ (by omega) (fun a ha => (hF3 a (by omega) (by omega) (by omega)).trans (hF a ha)) ⟨(hF3 _ (by omega) (by omega) (by omega)).trans hH.1, (hF3 _ (by omega) (by omega) (by omega)).trans hH.2⟩ hW3
  refine wp_iconst (pc := 5) (v := nI 0) dX5_passDay_5 rfl ?_
  refine wp_istore_n (pc := 6) (i := 1) dX5_passDay_6 rfl rfl (by decide) rfl ?_
  dsimp only [List.set_cons_zero, List.set_cons_succ]
  rotate_left
  exact loopA (T 1) 0 h1 (by omega) hs1.fr ⟨rfl, rfl⟩ (hs1.tw hW)
theorem itP_keep (hO : OKT T) (h0 : 0 < T 1) : ∀ n, T 4 + n ≤ 1200 → OKT (itP T n) ∧ itP T n 4 = T 4 + n ∧ ∀ j, (j < 4 ∨ (20 ≤ j ∧ j < 44) ∨ 50 ≤ j) → itP T n j = T j
  | 0, _ => ⟨hO, rfl, fun _ _ => rfl⟩
  | n + 1, hn => by
    obtain ⟨a, b, c⟩ := itP_keep hO h0 n (by omega)
    have c1 := c 1 (by omega)
    have hp : 0 < itP T n 0 := by rw [c 0 (by omega)]; exact (hO.2.2.2.2.2.1 h0).1
    refine ⟨okt_pass a (by omega) (by omega), ?_, fun j hj => ?_⟩
    · show passT (itP T n) 4 = _
      unfold passT
      rw [if_pos rfl, b]; omega
    · show passT (itP T n) j = _
      have := a.1
      have := a.2.1
      unfold passT
      rw [if_neg (by omega), if_neg (by omega), if_neg (by omega), vs_out a.1 hp (by omega)]
      exact c j hj
theorem sp_passDays {n : Nat} {K : Hp → Prop} (hT : isT t) (hW : TW h t T) (hO : OKT T) (h0 : 0 < T 1) (hn : n ≤ 60) (hd : T 4 + n ≤ 1200) (k : ∀ h', TW h' t (itP T n) → Fr h h' t → K h') : Call G (d + 4) mX5_passDays [.ref t, .int (nI n)] h (pV K) := by
  obtain ⟨ht, s0, s1, s2, s3, s4, s5, s6, s7, s8, s9, s10, s11⟩ := id hT
  have loop : ∀ m i h1, i + m = n → Fr h h1 t → TW h1 t (itP T i) → WP G (d + 4) mX5_passDays (pV K) 2 [some (.ref t), some (.int (nI n)), some (.int (nI i))] [] h1 := by
    intro m
    induction m with
    | zero =>
      intro i h1 him hF hW1
      refine wp_iload_n (pc := 2) (i := 2) dX5_passDays_2 rfl rfl ?_
      refine wp_iload_n (pc := 3) (i := 1) dX5_passDays_3 rfl rfl ?_
      first | (with_reducible show WP _ _ _ _ _ _ (Value.int (nI _) :: Value.int (nI _) :: _) _; refine wp_icmp_geN (pc := 4) (tgt := 17) dX5_passDays_4 (by decide) (by omega) (by omega) (fun c4 => ?_) (fun c4 => ?_)) | refine wp_icmp_ge (pc := 4) (tgt := 17) dX5_passDays_4 (by decide) (fun c4 => ?_) (fun c4 => ?_)
      refine wp_vret (pc := 17) dX5_passDays_17 rfl ?_
      rotate_left
      rotate_left
      · rw [show i = n by omega] at hW1; exact k h1 hW1 hF
      · exact absurd him (by omega)
    | succ m ih =>
      intro i h1 him hF hW1
      obtain ⟨a, b, c⟩ := itP_keep hO h0 i (by omega)
      refine wp_iload_n (pc := 2) (i := 2) dX5_passDays_2 rfl rfl ?_
      refine wp_iload_n (pc := 3) (i := 1) dX5_passDays_3 rfl rfl ?_
      first | (with_reducible show WP _ _ _ _ _ _ (Value.int (nI _) :: Value.int (nI _) :: _) _; refine wp_icmp_geN (pc := 4) (tgt := 17) dX5_passDays_4 (by decide) (by omega) (by omega) (fun c4 => ?_) (fun c4 => ?_)) | refine wp_icmp_ge (pc := 4) (tgt := 17) dX5_passDays_4 (by decide) (fun c4 => ?_) (fun c4 => ?_)
      rotate_left
      refine wp_aload_n (pc := 7) (i := 0) dX5_passDays_7 rfl rfl ?_
      refine wp_cV0v (pc := 8) lk_X5_78 dX5_passDays_8 s0 rfl rfl (sp_passDay hT hW1 a (by rw [c 1 (by omega)]; exact h0) (by omega) (fun h2 hW2 hF2 => ?_))
      first | refine wp_iincN (pc := 11) (i := 2) (n := 1) dX5_passDays_11 rfl rfl (by decide) rfl ?_ | refine wp_iinc (pc := 11) (i := 2) dX5_passDays_11 rfl rfl rfl (by decide) rfl ?_
      dsimp only [List.set_cons_zero, List.set_cons_succ]
      refine wp_goto (pc := 14) (tgt := 2) dX5_passDays_14 (by decide) ?_
      rotate_left
      · exact absurd him (by omega)
      · exact ih (i + 1) h2 (by omega) (hF.tr hF2) hW2
  refine Call.of (M := mX5_passDays) (n := 1) (by decide +kernel) rfl ?_
  show WP _ _ _ _ 0 [some (.ref t), some (.int (nI n)), none] [] _
  refine wp_iconst (pc := 0) (v := nI 0) dX5_passDays_0 rfl ?_
  refine wp_istore_n (pc := 1) (i := 2) dX5_passDays_1 rfl rfl (by decide) rfl ?_
  dsimp only [List.set_cons_zero, List.set_cons_succ]
  rotate_left
  exact loop n 0 h (by omega) (Fr.rf h t) hW
end TOWN6
