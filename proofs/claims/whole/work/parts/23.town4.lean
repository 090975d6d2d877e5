section TOWN4
variable {G : Gt} {d : Nat} {h : Hp} {t : Nat} {T : Tn}
theorem sp_addFedP {c m : Nat} {K : Hp → Prop} (hT : isT t) (hW : TW h t T) (hO : OKT T) (hc : c < T 0) (hm : m ≤ 1000) (k : K (hs h (t + 1) c (nI (min 99 (T (5 + c) + m))))) : Call G (d + 1) mX5_addFed [.ref t, .int (nI c), .int (nI m)] h (pV K) := sp_addFed hT hW hO hc (by
  have := (hO.2.2.2.2.2.2.1 c (by have := hO.1; omega)).1
  rw [clI_pos (by omega) (by omega)]; exact k)
theorem sp_addFedM {c m : Nat} {K : Hp → Prop} (hT : isT t) (hW : TW h t T) (hO : OKT T) (hc : c < T 0) (hm : m ≤ 1000) (k : K (hs h (t + 1) c (nI (T (5 + c) - m)))) : Call G (d + 1) mX5_addFed [.ref t, .int (nI c), .int (-nI m)] h (pV K) := sp_addFed hT hW hO hc (by
  have := (hO.2.2.2.2.2.2.1 c (by have := hO.1; omega)).1
  rw [clI_neg (by omega) (by omega) (by omega)]; exact k)
theorem sp_addSpoiltP {c m : Nat} {K : Hp → Prop} (hT : isT t) (hW : TW h t T) (hO : OKT T) (hc : c < T 0) (hm : m ≤ 1000) (k : K (hs h (t + 2) c (nI (min 20 (T (10 + c) + m))))) : Call G (d + 1) mX5_addSpoilt [.ref t, .int (nI c), .int (nI m)] h (pV K) := sp_addSpoilt hT hW hO hc (by
  have := (hO.2.2.2.2.2.2.1 c (by have := hO.1; omega)).2.1
  rw [clI_pos (by omega) (by omega)]; exact k)
theorem sp_addSpoiltM {c m : Nat} {K : Hp → Prop} (hT : isT t) (hW : TW h t T) (hO : OKT T) (hc : c < T 0) (hm : m ≤ 1000) (k : K (hs h (t + 2) c (nI (T (10 + c) - m)))) : Call G (d + 1) mX5_addSpoilt [.ref t, .int (nI c), .int (-nI m)] h (pV K) := sp_addSpoilt hT hW hO hc (by
  have := (hO.2.2.2.2.2.2.1 c (by have := hO.1; omega)).2.1
  rw [clI_neg (by omega) (by omega) (by omega)]; exact k)
theorem pow_lt64 {x y : Nat} (h : y < 6) (hx : x < 64) : x ||| 1 * 2 ^ y < 64 := by
  have : ∀ y, y < 6 → 1 * 2 ^ y < 64 := by decide
  exact or_lt (k := 6) hx (this y h)
theorem okt_vis {g c : Nat} (hO : OKT T) (hg : g < T 1) (hc : c < T 0) : OKT (vis T g c) := by
  have p0 := hO.2.2.2.2.2.1 (by omega)
  have o3 := hO.2.2.2.1
  have f := hO.2.2.2.2.2.2.1 c (by have := hO.1; omega)
  unfold vis
  split
  · exact hO.fed hc (by omega)
  split
  · exact OKT.spo (hO.fed hc (by omega)) (by rw [up_ne (by omega)]; exact hc) (by omega)
  split
  · exact OKT.tol (hO.fed hc (by omega)) (by rw [up_ne (by omega)]; exact hc) (pow_lt64 (by have := Nat.mod_lt (T (26 + g) + T 4) p0.2; omega) f.2.2)
  split
  · exact hO.spo hc (by omega)
  · exact OKT.fed (hO.spo hc (by omega)) (by rw [up_ne (by omega)]; exact hc) (by omega)
theorem sp_visit {g c : Nat} {K : Hp → Prop} (hT : isT t) (hW : TW h t T) (hO : OKT T) (hg : g < T 1) (hc : c < T 0) (k : ∀ h', TW h' t (vis T g c) → (∀ a, a ≠ t + 1 → a ≠ t + 2 → a ≠ t + 3 → h' a = h a) → K h') : Call G (d + 2) mX5_visit [.ref t, .int (nI g), .int (nI c)] h (pV K) := by
  obtain ⟨ht, s0, s1, s2, s3, s4, s5, s6, s7, s8, s9, s10, s11⟩ := id hT
  obtain ⟨e0, e1, e2, e3, e4, e5, e6, e7, e8, e9, e10, e11, e12, e13⟩ := id hW
  obtain ⟨o0, o1, o2, o3, o4, o5, o6, o7, o8⟩ := id hO
  obtain ⟨⟨k1, k2⟩, g1, g2, g3, g4, g5⟩ := o7 g hg
  have p0 := o5 (by omega)
  obtain ⟨f1, f2, f3⟩ := o6 c (by omega)
  have q1 := e8 g hg
  refine Call.of (M := mX5_visit) (n := 0) (by decide +kernel) rfl ?_
  show WP _ _ _ _ 0 [some (.ref t), some (.int (nI g)), some (.int (nI c))] [] _
  rcases (show T (20 + g) = 1 ∨ T (20 + g) = 2 ∨ T (20 + g) = 3 ∨ T (20 + g) = 4 ∨ T (20 + g) = 5 by omega) with q | q | q | q | q
  · rw [q] at q1
    rw [vis, if_pos q] at k
    refine wp_aload_n (pc := 0) (i := 0) dX5_visit_0 rfl rfl ?_
    refine wp_gfr (pc := 1) fk_X5_21 dX5_visit_1 s0 rfl (by omega) ?_
    refine wp_iload_n (pc := 4) (i := 1) dX5_visit_4 rfl rfl ?_
    first | (with_reducible show WP _ _ _ _ _ _ (Value.int (nI _) :: _) _; refine wp_ialdN (pc := 5) dX5_visit_5 s4 (by omega) (by first | with_reducible assumption | with_reducible exact hs_same _ _ _ _ | rfl) ?_) | refine wp_iald (pc := 5) dX5_visit_5 s4 (by assumption) rfl ?_
    rotate_left
    refine wp_tableIn (tgt := 40) dX5_visit_6 (by decide) (by decide) rfl (by decide) ?_
    refine wp_aload_n (pc := 40) (i := 0) dX5_visit_40 rfl rfl ?_
    refine wp_iload_n (pc := 41) (i := 2) dX5_visit_41 rfl rfl ?_
    refine wp_aload_n (pc := 42) (i := 0) dX5_visit_42 rfl rfl ?_
    refine wp_gfr (pc := 43) fk_X5_24 dX5_visit_43 s0 rfl (by omega) ?_
    refine wp_iload_n (pc := 46) (i := 1) dX5_visit_46 rfl rfl ?_
    first | (with_reducible show WP _ _ _ _ _ _ (Value.int (nI _) :: _) _; refine wp_ialdN (pc := 47) dX5_visit_47 s5 (by omega) (by first | with_reducible assumption | with_reducible exact hs_same _ _ _ _ | with_reducible exact e9 _ (by omega) | rfl) ?_) | refine wp_iald (pc := 47) dX5_visit_47 s5 (by assumption) rfl ?_
    refine wp_cV2v (pc := 48) lk_X5_85 dX5_visit_48 s0 rfl rfl (sp_addFedP hT hW hO hc (by omega) ?_)
    refine wp_goto (pc := 51) (tgt := 167) dX5_visit_51 (by decide) ?_
    refine wp_vret (pc := 167) dX5_visit_167 rfl ?_
    rotate_left
    exact k _ (hW.fed hO hc) (fun a a1 a2 a3 => hs_ne a1)
  · rw [q] at q1
    rw [vis, if_neg (by omega), if_pos q] at k
    refine wp_aload_n (pc := 0) (i := 0) dX5_visit_0 rfl rfl ?_
    refine wp_gfr (pc := 1) fk_X5_21 dX5_visit_1 s0 rfl (by omega) ?_
    refine wp_iload_n (pc := 4) (i := 1) dX5_visit_4 rfl rfl ?_
    first | (with_reducible show WP _ _ _ _ _ _ (Value.int (nI _) :: _) _; refine wp_ialdN (pc := 5) dX5_visit_5 s4 (by omega) (by first | with_reducible assumption | with_reducible exact hs_same _ _ _ _ | rfl) ?_) | refine wp_iald (pc := 5) dX5_visit_5 s4 (by assumption) rfl ?_
    rotate_left
    refine wp_tableIn (tgt := 54) dX5_visit_6 (by decide) (by decide) rfl (by decide) ?_
    have hW1 := hW.fed (v := min 99 (T (5 + c) + 2 * T (26 + g))) hO hc
    have hO1 := hO.fed (v := min 99 (T (5 + c) + 2 * T (26 + g))) hc (by omega)
    have hc1 : c < up T (5 + c) (min 99 (T (5 + c) + 2 * T (26 + g))) 0 := by rw [up_ne (by omega)]; exact hc
    refine wp_aload_n (pc := 54) (i := 0) dX5_visit_54 rfl rfl ?_
    refine wp_iload_n (pc := 55) (i := 2) dX5_visit_55 rfl rfl ?_
    refine wp_iconst (pc := 56) (v := nI 2) dX5_visit_56 rfl ?_
    refine wp_aload_n (pc := 57) (i := 0) dX5_visit_57 rfl rfl ?_
    refine wp_gfr (pc := 58) fk_X5_24 dX5_visit_58 s0 rfl (by omega) ?_
    refine wp_iload_n (pc := 61) (i := 1) dX5_visit_61 rfl rfl ?_
    first | (with_reducible show WP _ _ _ _ _ _ (Value.int (nI _) :: _) _; refine wp_ialdN (pc := 62) dX5_visit_62 s5 (by omega) (by first | with_reducible assumption | with_reducible exact hs_same _ _ _ _ | with_reducible exact e9 _ (by omega) | rfl) ?_) | refine wp_iald (pc := 62) dX5_visit_62 s5 (by assumption) rfl ?_
    first | (with_reducible show WP _ _ _ _ _ _ (Value.int (nI _) :: Value.int (nI _) :: _) _; refine wp_imulN (pc := 63) dX5_visit_63 ?_) | refine wp_imul (pc := 63) dX5_visit_63 ?_
    refine wp_cV2v (pc := 64) lk_X5_85 dX5_visit_64 s0 rfl rfl (sp_addFedP hT hW hO hc (by omega) ?_)
    refine wp_aload_n (pc := 67) (i := 0) dX5_visit_67 rfl rfl ?_
    refine wp_iload_n (pc := 68) (i := 2) dX5_visit_68 rfl rfl ?_
    refine wp_iconst (pc := 69) (v := nI 1) dX5_visit_69 rfl ?_
    refine wp_cV2v (pc := 70) lk_X5_93 dX5_visit_70 s0 rfl rfl (sp_addSpoiltP hT hW1 hO1 hc1 (by omega) ?_)
    refine wp_goto (pc := 73) (tgt := 167) dX5_visit_73 (by decide) ?_
    refine wp_vret (pc := 167) dX5_visit_167 rfl ?_
    rotate_left
    rw [up_ne (show 10 + c ≠ 5 + c by omega)]
    exact k _ (hW1.spo hO1 hc1) (fun a a1 a2 a3 => (hs_ne a2).trans (hs_ne a1))
  · rw [q] at q1
    rw [vis, if_neg (by omega), if_neg (by omega), if_pos q] at k
    refine wp_aload_n (pc := 0) (i := 0) dX5_visit_0 rfl rfl ?_
    refine wp_gfr (pc := 1) fk_X5_21 dX5_visit_1 s0 rfl (by omega) ?_
    refine wp_iload_n (pc := 4) (i := 1) dX5_visit_4 rfl rfl ?_
    first | (with_reducible show WP _ _ _ _ _ _ (Value.int (nI _) :: _) _; refine wp_ialdN (pc := 5) dX5_visit_5 s4 (by omega) (by first | with_reducible assumption | with_reducible exact hs_same _ _ _ _ | rfl) ?_) | refine wp_iald (pc := 5) dX5_visit_5 s4 (by assumption) rfl ?_
    rotate_left
    refine wp_tableIn (tgt := 76) dX5_visit_6 (by decide) (by decide) rfl (by decide) ?_
    have hW1 := hW.fed (v := min 99 (T (5 + c) + T (26 + g) / 2)) hO hc
    have hO1 := hO.fed (v := min 99 (T (5 + c) + T (26 + g) / 2)) hc (by omega)
    have hc1 : c < up T (5 + c) (min 99 (T (5 + c) + T (26 + g) / 2)) 0 := by rw [up_ne (by omega)]; exact hc
    have m1 := Nat.mod_lt (T (26 + g) + T 4) p0.2
    have z1 : hs h (t + 1) c (nI (min 99 (T (5 + c) + T (26 + g) / 2))) (t + 3) c = nI (T (15 + c)) := by rw [hs_ne (by omega)]; exact e7 c hc
    have z2 : hs h (t + 1) c (nI (min 99 (T (5 + c) + T (26 + g) / 2))) t 1 = nI (T 3) := by rw [hs_ne (by omega)]; exact e1
    have z3 : hs h (t + 1) c (nI (min 99 (T (5 + c) + T (26 + g) / 2))) t 4 = nI (T 4) := by rw [hs_ne (by omega)]; exact e4
    have z4 : hs h (t + 1) c (nI (min 99 (T (5 + c) + T (26 + g) / 2))) (t + 5) g = nI (T (26 + g)) := by rw [hs_ne (by omega)]; exact e9 g hg
    refine wp_aload_n (pc := 76) (i := 0) dX5_visit_76 rfl rfl ?_
    refine wp_iload_n (pc := 77) (i := 2) dX5_visit_77 rfl rfl ?_
    refine wp_aload_n (pc := 78) (i := 0) dX5_visit_78 rfl rfl ?_
    refine wp_gfr (pc := 79) fk_X5_24 dX5_visit_79 s0 rfl (by omega) ?_
    refine wp_iload_n (pc := 82) (i := 1) dX5_visit_82 rfl rfl ?_
    first | (with_reducible show WP _ _ _ _ _ _ (Value.int (nI _) :: _) _; refine wp_ialdN (pc := 83) dX5_visit_83 s5 (by omega) (by first | with_reducible assumption | with_reducible exact hs_same _ _ _ _ | with_reducible exact e9 _ (by omega) | rfl) ?_) | refine wp_iald (pc := 83) dX5_visit_83 s5 (by assumption) rfl ?_
    refine wp_iconst (pc := 84) (v := nI 2) dX5_visit_84 rfl ?_
    first | (with_reducible show WP _ _ _ _ _ _ (Value.int (nI _) :: Value.int (nI _) :: _) _; refine wp_idivN (pc := 85) dX5_visit_85 (by omega) (by omega) (by omega) ?_) | refine wp_idiv (pc := 85) dX5_visit_85 (by first | assumption | decide) ?_
    refine wp_cV2v (pc := 86) lk_X5_85 dX5_visit_86 s0 rfl rfl (sp_addFedP hT hW hO hc (by omega) ?_)
    refine wp_aload_n (pc := 89) (i := 0) dX5_visit_89 rfl rfl ?_
    refine wp_gfr (pc := 90) fk_X5_18 dX5_visit_90 s0 rfl (by omega) ?_
    refine wp_iload_n (pc := 93) (i := 2) dX5_visit_93 rfl rfl ?_
    refine wp_dup2 (pc := 94) dX5_visit_94 rfl rfl ?_
    first | (with_reducible show WP _ _ _ _ _ _ (Value.int (nI _) :: _) _; refine wp_ialdN (pc := 95) dX5_visit_95 s3 (by omega) (by first | with_reducible assumption | with_reducible exact hs_same _ _ _ _ | with_reducible exact e9 _ (by omega) | rfl) ?_) | refine wp_iald (pc := 95) dX5_visit_95 s3 (by assumption) rfl ?_
    refine wp_aload_n (pc := 96) (i := 0) dX5_visit_96 rfl rfl ?_
    refine wp_gfv (pc := 97) fk_X5_55 dX5_visit_97 s0 rfl (by first | with_reducible assumption | with_reducible exact hs_same _ _ _ _ | with_reducible exact e9 _ (by omega) | rfl) ?_
    refine wp_iconst (pc := 100) (v := nI 1) dX5_visit_100 rfl ?_
    first | (with_reducible show WP _ _ _ _ _ _ (Value.int (nI _) :: Value.int (nI _) :: _) _; refine wp_icmp_geN (pc := 101) (tgt := 108) dX5_visit_101 (by decide) (by omega) (by omega) (fun c101 => ?_) (fun c101 => ?_)) | refine wp_icmp_ge (pc := 101) (tgt := 108) dX5_visit_101 (by decide) (fun c101 => ?_) (fun c101 => ?_)
    refine wp_iconst (pc := 108) (v := nI 1) dX5_visit_108 rfl ?_
    refine wp_aload_n (pc := 109) (i := 0) dX5_visit_109 rfl rfl ?_
    refine wp_gfr (pc := 110) fk_X5_24 dX5_visit_110 s0 rfl (by omega) ?_
    refine wp_iload_n (pc := 113) (i := 1) dX5_visit_113 rfl rfl ?_
    first | (with_reducible show WP _ _ _ _ _ _ (Value.int (nI _) :: _) _; refine wp_ialdN (pc := 114) dX5_visit_114 s5 (by omega) (by first | with_reducible assumption | with_reducible exact hs_same _ _ _ _ | with_reducible exact e9 _ (by omega) | rfl) ?_) | refine wp_iald (pc := 114) dX5_visit_114 s5 (by assumption) rfl ?_
    refine wp_aload_n (pc := 115) (i := 0) dX5_visit_115 rfl rfl ?_
    refine wp_gfv (pc := 116) fk_X5_58 dX5_visit_116 s0 rfl (by first | with_reducible assumption | with_reducible exact hs_same _ _ _ _ | with_reducible exact e9 _ (by omega) | rfl) ?_
    first | (with_reducible show WP _ _ _ _ _ _ (Value.int (nI _) :: Value.int (nI _) :: _) _; refine wp_iaddN (pc := 119) dX5_visit_119 ?_) | refine wp_iadd (pc := 119) dX5_visit_119 ?_
    refine wp_aload_n (pc := 120) (i := 0) dX5_visit_120 rfl rfl ?_
    refine wp_gfv (pc := 121) fk_X5_55 dX5_visit_121 s0 rfl (by first | with_reducible assumption | with_reducible exact hs_same _ _ _ _ | with_reducible exact e9 _ (by omega) | rfl) ?_
    first | (with_reducible show WP _ _ _ _ _ _ (Value.int (nI _) :: Value.int (nI _) :: _) _; refine wp_iremN (pc := 124) dX5_visit_124 (by omega) (by omega) (by omega) ?_) | refine wp_irem (pc := 124) dX5_visit_124 (by first | assumption | decide) ?_
    first | (with_reducible show WP _ _ _ _ _ _ (Value.int (nI _) :: Value.int (nI _) :: _) _; refine wp_ishlN (pc := 125) dX5_visit_125 (by omega) ?_) | refine wp_ishl (pc := 125) dX5_visit_125 ?_
    first | (with_reducible show WP _ _ _ _ _ _ (Value.int (nI _) :: Value.int (nI _) :: _) _; refine wp_iorN (pc := 126) dX5_visit_126 ?_) | refine wp_ior (pc := 126) dX5_visit_126 ?_
    first | (with_reducible show WP _ _ _ _ _ _ (_ :: Value.int (nI _) :: _) _; refine wp_iastN (pc := 127) dX5_visit_127 s3 (by omega) ?_) | refine wp_iast (pc := 127) dX5_visit_127 s3 (by assumption) rfl ?_
    refine wp_goto (pc := 128) (tgt := 167) dX5_visit_128 (by decide) ?_
    refine wp_vret (pc := 167) dX5_visit_167 rfl ?_
    rotate_left
    refine wp_iconst (pc := 104) (v := nI 0) dX5_visit_104 rfl ?_
    refine wp_goto (pc := 105) (tgt := 126) dX5_visit_105 (by decide) ?_
    first | (with_reducible show WP _ _ _ _ _ _ (Value.int (nI _) :: Value.int (nI _) :: _) _; refine wp_iorN (pc := 126) dX5_visit_126 ?_) | refine wp_ior (pc := 126) dX5_visit_126 ?_
    first | (with_reducible show WP _ _ _ _ _ _ (_ :: Value.int (nI _) :: _) _; refine wp_iastN (pc := 127) dX5_visit_127 s3 (by omega) ?_) | refine wp_iast (pc := 127) dX5_visit_127 s3 (by assumption) rfl ?_
    refine wp_goto (pc := 128) (tgt := 167) dX5_visit_128 (by decide) ?_
    refine wp_vret (pc := 167) dX5_visit_167 rfl ?_
    rotate_left
    · exact k _ (hW1.tol hO1 hc1) (fun a a1 a2 a3 => (hs_ne a3).trans (hs_ne a1))
    · exact absurd p0.2 (by omega)
  · rw [q] at q1
    rw [vis, if_neg (by omega), if_neg (by omega), if_neg (by omega), if_pos q] at k
    refine wp_aload_n (pc := 0) (i := 0) dX5_visit_0 rfl rfl ?_
    refine wp_gfr (pc := 1) fk_X5_21 dX5_visit_1 s0 rfl (by omega) ?_
    refine wp_iload_n (pc := 4) (i := 1) dX5_visit_4 rfl rfl ?_
    first | (with_reducible show WP _ _ _ _ _ _ (Value.int (nI _) :: _) _; refine wp_ialdN (pc := 5) dX5_visit_5 s4 (by omega) (by first | with_reducible assumption | with_reducible exact hs_same _ _ _ _ | rfl) ?_) | refine wp_iald (pc := 5) dX5_visit_5 s4 (by assumption) rfl ?_
    rotate_left
    refine wp_tableIn (tgt := 131) dX5_visit_6 (by decide) (by decide) rfl (by decide) ?_
    refine wp_aload_n (pc := 131) (i := 0) dX5_visit_131 rfl rfl ?_
    refine wp_iload_n (pc := 132) (i := 2) dX5_visit_132 rfl rfl ?_
    refine wp_aload_n (pc := 133) (i := 0) dX5_visit_133 rfl rfl ?_
    refine wp_gfr (pc := 134) fk_X5_24 dX5_visit_134 s0 rfl (by omega) ?_
    refine wp_iload_n (pc := 137) (i := 1) dX5_visit_137 rfl rfl ?_
    first | (with_reducible show WP _ _ _ _ _ _ (Value.int (nI _) :: _) _; refine wp_ialdN (pc := 138) dX5_visit_138 s5 (by omega) (by first | with_reducible assumption | with_reducible exact hs_same _ _ _ _ | with_reducible exact e9 _ (by omega) | rfl) ?_) | refine wp_iald (pc := 138) dX5_visit_138 s5 (by assumption) rfl ?_
    refine wp_ineg (pc := 139) dX5_visit_139 ?_
    refine wp_cV2v (pc := 140) lk_X5_93 dX5_visit_140 s0 rfl rfl (sp_addSpoiltM hT hW hO hc (by omega) ?_)
    refine wp_goto (pc := 143) (tgt := 167) dX5_visit_143 (by decide) ?_
    refine wp_vret (pc := 167) dX5_visit_167 rfl ?_
    rotate_left
    exact k _ (hW.spo hO hc) (fun a a1 a2 a3 => hs_ne a2)
  · rw [q] at q1
    rw [vis, if_neg (by omega), if_neg (by omega), if_neg (by omega), if_neg (by omega)] at k
    refine wp_aload_n (pc := 0) (i := 0) dX5_visit_0 rfl rfl ?_
    refine wp_gfr (pc := 1) fk_X5_21 dX5_visit_1 s0 rfl (by omega) ?_
    refine wp_iload_n (pc := 4) (i := 1) dX5_visit_4 rfl rfl ?_
    first | (with_reducible show WP _ _ _ _ _ _ (Value.int (nI _) :: _) _; refine wp_ialdN (pc := 5) dX5_visit_5 s4 (by omega) (by first | with_reducible assumption | with_reducible exact hs_same _ _ _ _ | rfl) ?_) | refine wp_iald (pc := 5) dX5_visit_5 s4 (by assumption) rfl ?_
    rotate_left
    refine wp_tableIn (tgt := 146) dX5_visit_6 (by decide) (by decide) rfl (by decide) ?_
    have hW1 := hW.spo (v := T (10 + c) - T (26 + g)) hO hc
    have hO1 := hO.spo (v := T (10 + c) - T (26 + g)) hc (by omega)
    have hc1 : c < up T (10 + c) (T (10 + c) - T (26 + g)) 0 := by rw [up_ne (by omega)]; exact hc
    refine wp_aload_n (pc := 146) (i := 0) dX5_visit_146 rfl rfl ?_
    refine wp_iload_n (pc := 147) (i := 2) dX5_visit_147 rfl rfl ?_
    refine wp_aload_n (pc := 148) (i := 0) dX5_visit_148 rfl rfl ?_
    refine wp_gfr (pc := 149) fk_X5_24 dX5_visit_149 s0 rfl (by omega) ?_
    refine wp_iload_n (pc := 152) (i := 1) dX5_visit_152 rfl rfl ?_
    first | (with_reducible show WP _ _ _ _ _ _ (Value.int (nI _) :: _) _; refine wp_ialdN (pc := 153) dX5_visit_153 s5 (by omega) (by first | with_reducible assumption | with_reducible exact hs_same _ _ _ _ | with_reducible exact e9 _ (by omega) | rfl) ?_) | refine wp_iald (pc := 153) dX5_visit_153 s5 (by assumption) rfl ?_
    refine wp_ineg (pc := 154) dX5_visit_154 ?_
    refine wp_cV2v (pc := 155) lk_X5_93 dX5_visit_155 s0 rfl rfl (sp_addSpoiltM hT hW hO hc (by omega) ?_)
    refine wp_aload_n (pc := 158) (i := 0) dX5_visit_158 rfl rfl ?_
    refine wp_iload_n (pc := 159) (i := 2) dX5_visit_159 rfl rfl ?_
    refine wp_iconst (pc := 160) (v := nI 1) dX5_visit_160 rfl ?_
    refine wp_cV2v (pc := 161) lk_X5_85 dX5_visit_161 s0 rfl rfl (sp_addFedP hT hW1 hO1 hc1 (by omega) ?_)
    refine wp_goto (pc := 164) (tgt := 167) dX5_visit_164 (by decide) ?_
    refine wp_vret (pc := 167) dX5_visit_167 rfl ?_
    rotate_left
    rw [up_ne (show 5 + c ≠ 10 + c by omega)]
    exact k _ (hW1.fed hO1 hc1) (fun a a1 a2 a3 => (hs_ne a1).trans (hs_ne a2))
end TOWN4
