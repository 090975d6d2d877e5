section RTOWN2
variable {G : Gt} {d : Nat} {h : Hp} {B : List Nat} {a : Nat} {V : Tn} {σ : Sg}
theorem sp7_reads {K : Int32 → Hp → Prop} (hRB : RB h B) (hB : OB B)
    (kO : ∀ h' T' a', rTown B = rok T' a' → PT T' → 0 < T' 0 → 0 < T' 1 → RW h' 1512 T' → RB h' B → FM h h' → K (nI 1) h')
    (kF : ∀ h' w a', rTown B = rno w a' → w ≤ 3 → a' ≤ B.length → RFl h' B w a' → FM h h' → K (nI 0) h') : Call G (d + 4) mX7_reads [.ref 89] h (pI K) := by
  have l := hB.1
  refine Call.of (M := mX7_reads) (n := 1) (by decide +kernel) rfl ?_
  show WP _ _ _ _ 0 [some (.ref 89), none] [] _
  have bad96 : ∀ h1, K (nI 0) h1 → WP G (d + 4) mX7_reads (pI K) 96 [some (.ref 89), some (.int (nI 0))] [] h1 := by
    intro h1 k
    refine wp_iload_n (pc := 96) (i := 1) dX7_reads_96 rfl rfl ?_
    first | (with_reducible show WP _ _ _ _ _ _ (Value.int (bI _) :: _) _; refine wp_if_eqB (pc := 97) (tgt := 115) dX7_reads_97 (by decide) (fun c97 => ?_) (fun c97 => ?_)) | (with_reducible show WP _ _ _ _ _ _ (Value.int (nI _) :: _) _; refine wp_if_eqN (pc := 97) (tgt := 115) dX7_reads_97 (by decide) (by omega) (fun c97 => ?_) (fun c97 => ?_)) | refine wp_if_eq (pc := 97) (tgt := 115) dX7_reads_97 (by decide) (fun c97 => ?_) (fun c97 => ?_)
    refine wp_iload_n (pc := 115) (i := 1) dX7_reads_115 rfl rfl ?_
    first | (with_reducible show WP _ _ _ _ _ _ (Value.int (bI _) :: _) _; refine wp_if_eqB (pc := 116) (tgt := 142) dX7_reads_116 (by decide) (fun c116 => ?_) (fun c116 => ?_)) | (with_reducible show WP _ _ _ _ _ _ (Value.int (nI _) :: _) _; refine wp_if_eqN (pc := 116) (tgt := 142) dX7_reads_116 (by decide) (by omega) (fun c116 => ?_) (fun c116 => ?_)) | refine wp_if_eq (pc := 116) (tgt := 142) dX7_reads_116 (by decide) (fun c116 => ?_) (fun c116 => ?_)
    refine wp_iconst (pc := 142) (v := nI 0) dX7_reads_142 rfl ?_
    refine wp_zret (pc := 143) dX7_reads_143 rfl (by first | exact Or.inl rfl | exact Or.inr rfl | assumption | exact bI_01 _) ?_
    rotate_left
    rotate_left
    rotate_left
    · exact k
    · exact absurd rfl c116
    · exact absurd rfl c97
  have bad56 : ∀ h1, K (nI 0) h1 → WP G (d + 4) mX7_reads (pI K) 56 [some (.ref 89), some (.int (nI 0))] [] h1 := by
    intro h1 k
    refine wp_iload_n (pc := 56) (i := 1) dX7_reads_56 rfl rfl ?_
    first | (with_reducible show WP _ _ _ _ _ _ (Value.int (bI _) :: _) _; refine wp_if_eqB (pc := 57) (tgt := 77) dX7_reads_57 (by decide) (fun c57 => ?_) (fun c57 => ?_)) | (with_reducible show WP _ _ _ _ _ _ (Value.int (nI _) :: _) _; refine wp_if_eqN (pc := 57) (tgt := 77) dX7_reads_57 (by decide) (by omega) (fun c57 => ?_) (fun c57 => ?_)) | refine wp_if_eq (pc := 57) (tgt := 77) dX7_reads_57 (by decide) (fun c57 => ?_) (fun c57 => ?_)
    refine wp_iload_n (pc := 77) (i := 1) dX7_reads_77 rfl rfl ?_
    first | (with_reducible show WP _ _ _ _ _ _ (Value.int (bI _) :: _) _; refine wp_if_neB (pc := 78) (tgt := 83) dX7_reads_78 (by decide) (fun c78 => ?_) (fun c78 => ?_)) | (with_reducible show WP _ _ _ _ _ _ (Value.int (nI _) :: _) _; refine wp_if_neN (pc := 78) (tgt := 83) dX7_reads_78 (by decide) (by omega) (fun c78 => ?_) (fun c78 => ?_)) | refine wp_if_ne (pc := 78) (tgt := 83) dX7_reads_78 (by decide) (fun c78 => ?_) (fun c78 => ?_)
    rotate_left
    refine wp_iconst (pc := 81) (v := nI 0) dX7_reads_81 rfl ?_
    refine wp_zret (pc := 82) dX7_reads_82 rfl (by first | exact Or.inl rfl | exact Or.inr rfl | assumption | exact bI_01 _) ?_
    rotate_left
    rotate_left
    · exact absurd rfl c78
    · exact k
    · exact absurd rfl c57
  have fin115 : ∀ V a' h1, 0 < V 0 → PT V → a' ≤ B.length → RY h1 B a' → RW h1 1512 V → FM h h1 → 0 < V 1 → rTown B = rEnd B V a' → WP G (d + 4) mX7_reads (pI K) 115 [some (.ref 89), some (.int (nI 1))] [] h1 := by
    intro V a' h1 v0 hP ha' hY1 hR1 hM1 v1 hS
    have x1 := hY1.2
    have x8 := hY1.1.1
    refine wp_iload_n (pc := 115) (i := 1) dX7_reads_115 rfl rfl ?_
    first | (with_reducible show WP _ _ _ _ _ _ (Value.int (bI _) :: _) _; refine wp_if_eqB (pc := 116) (tgt := 142) dX7_reads_116 (by decide) (fun c116 => ?_) (fun c116 => ?_)) | (with_reducible show WP _ _ _ _ _ _ (Value.int (nI _) :: _) _; refine wp_if_eqN (pc := 116) (tgt := 142) dX7_reads_116 (by decide) (by omega) (fun c116 => ?_) (fun c116 => ?_)) | refine wp_if_eq (pc := 116) (tgt := 142) dX7_reads_116 (by decide) (fun c116 => ?_) (fun c116 => ?_)
    rotate_left
    refine wp_aload_n (pc := 119) (i := 0) dX7_reads_119 rfl rfl ?_
    refine wp_gfv (pc := 120) fk_X7_80 dX7_reads_120 rfl rfl (by first | with_reducible assumption | with_reducible exact hs_same _ _ _ _ | rfl) ?_
    refine wp_aload_n (pc := 123) (i := 0) dX7_reads_123 rfl rfl ?_
    refine wp_gfv (pc := 124) fk_X7_76 dX7_reads_124 rfl rfl (by first | with_reducible assumption | with_reducible exact hs_same _ _ _ _ | rfl) ?_
    first | (with_reducible show WP _ _ _ _ _ _ (Value.int (nI _) :: Value.int (nI _) :: _) _; refine wp_icmp_eqN (pc := 127) (tgt := 138) dX7_reads_127 (by decide) (by omega) (by omega) (fun c127 => ?_) (fun c127 => ?_)) | refine wp_icmp_eq (pc := 127) (tgt := 138) dX7_reads_127 (by decide) (fun c127 => ?_) (fun c127 => ?_)
    refine wp_iconst (pc := 138) (v := nI 1) dX7_reads_138 rfl ?_
    refine wp_goto (pc := 139) (tgt := 143) dX7_reads_139 (by decide) ?_
    refine wp_zret (pc := 143) dX7_reads_143 rfl (by first | exact Or.inl rfl | exact Or.inr rfl | assumption | exact bI_01 _) ?_
    rotate_left
    refine wp_aload_n (pc := 130) (i := 0) dX7_reads_130 rfl rfl ?_
    refine wp_iconst (pc := 131) (v := nI 1) dX7_reads_131 rfl ?_
    refine wp_cV1i (pc := 132) lk_X7_93 dX7_reads_132 rfl rfl rfl (sp7_refuse hY1 (fun h2 r f2 => ?_))
    first | (with_reducible show WP _ _ _ _ _ _ (Value.int (bI _) :: _) _; refine wp_if_eqB (pc := 135) (tgt := 142) dX7_reads_135 (by decide) (fun c135 => ?_) (fun c135 => ?_)) | (with_reducible show WP _ _ _ _ _ _ (Value.int (nI _) :: _) _; refine wp_if_eqN (pc := 135) (tgt := 142) dX7_reads_135 (by decide) (by omega) (fun c135 => ?_) (fun c135 => ?_)) | refine wp_if_eq (pc := 135) (tgt := 142) dX7_reads_135 (by decide) (fun c135 => ?_) (fun c135 => ?_)
    rotate_left
    refine wp_iconst (pc := 138) (v := nI 1) dX7_reads_138 rfl ?_
    refine wp_goto (pc := 139) (tgt := 143) dX7_reads_139 (by decide) ?_
    refine wp_zret (pc := 143) dX7_reads_143 rfl (by first | exact Or.inl rfl | exact Or.inr rfl | assumption | exact bI_01 _) ?_
    rotate_left
    · exact absurd c116 (by decide)
    · exact kO h1 V a' (by rw [hS, rEnd_ok c127]) hP v0 v1 hR1 hY1.1 hM1
    · refine wp_iconst (pc := 142) (v := nI 0) dX7_reads_142 rfl ?_
      refine wp_zret (pc := 143) dX7_reads_143 rfl (by first | exact Or.inl rfl | exact Or.inr rfl | assumption | exact bI_01 _) ?_
      rotate_left
      exact kF h2 1 a' (by rw [hS, rEnd_no (by omega)]) (by omega) ha' r (hM1.f9 f2)
    · exact absurd rfl c135
  have gl : ∀ m V a' h1, V 1 + m = 6 → 0 < V 0 → PT V → a' ≤ B.length → RY h1 B a' → RW h1 1512 V → FM h h1 → rTown B = rGrs B m V a' → (0 < ko B a' ∨ 0 < V 1) → WP G (d + 4) mX7_reads (pI K) 96 [some (.ref 89), some (.int (nI 1))] [] h1 := by
    intro m
    induction m with
    | zero =>
      intro V a' h1 hm v0 hP ha' hY1 hR1 hM1 hS hv
      refine wp_iload_n (pc := 96) (i := 1) dX7_reads_96 rfl rfl ?_
      first | (with_reducible show WP _ _ _ _ _ _ (Value.int (bI _) :: _) _; refine wp_if_eqB (pc := 97) (tgt := 115) dX7_reads_97 (by decide) (fun c97 => ?_) (fun c97 => ?_)) | (with_reducible show WP _ _ _ _ _ _ (Value.int (nI _) :: _) _; refine wp_if_eqN (pc := 97) (tgt := 115) dX7_reads_97 (by decide) (by omega) (fun c97 => ?_) (fun c97 => ?_)) | refine wp_if_eq (pc := 97) (tgt := 115) dX7_reads_97 (by decide) (fun c97 => ?_) (fun c97 => ?_)
      rotate_left
      refine wp_aload_n (pc := 100) (i := 0) dX7_reads_100 rfl rfl ?_
      refine wp_cV0i (pc := 101) lk_X7_119 dX7_reads_101 rfl rfl rfl (sp7_isSort hY1 hB ha' ?_)
      first | (with_reducible show WP _ _ _ _ _ _ (Value.int (bI _) :: _) _; refine wp_if_eqB (pc := 104) (tgt := 115) dX7_reads_104 (by decide) (fun c104 => ?_) (fun c104 => ?_)) | (with_reducible show WP _ _ _ _ _ _ (Value.int (nI _) :: _) _; refine wp_if_eqN (pc := 104) (tgt := 115) dX7_reads_104 (by decide) (by omega) (fun c104 => ?_) (fun c104 => ?_)) | refine wp_if_eq (pc := 104) (tgt := 115) dX7_reads_104 (by decide) (fun c104 => ?_) (fun c104 => ?_)
      rotate_left
      refine wp_aload_n (pc := 107) (i := 0) dX7_reads_107 rfl rfl ?_
      refine wp_cV0i (pc := 108) lk_X7_122 dX7_reads_108 rfl rfl rfl (sp7_readsGran6 hY1 hR1 (by omega) (fun h2 r f2 => ?_))
      rotate_left
      · exact absurd c97 (by decide)
      · have c := of_decide_eq_false c104
        exact fin115 V a' h1 v0 hP ha' hY1 hR1 hM1 (by omega) (by rw [hS, rGrs, if_neg c])
      · have c := of_decide_eq_true c104
        refine wp_istore_n (pc := 111) (i := 1) dX7_reads_111 rfl rfl (by decide) rfl ?_
        dsimp only [List.set_cons_zero, List.set_cons_succ]
        refine wp_goto (pc := 112) (tgt := 96) dX7_reads_112 (by decide) ?_
        rotate_left
        exact bad96 h2 (kF h2 3 a' (by rw [hS, rGrs, if_pos c]) (by omega) ha' r (hM1.f9 f2))
    | succ m ih =>
      intro V a' h1 hm v0 hP ha' hY1 hR1 hM1 hS hv
      have v5 := hP.1
      refine wp_iload_n (pc := 96) (i := 1) dX7_reads_96 rfl rfl ?_
      first | (with_reducible show WP _ _ _ _ _ _ (Value.int (bI _) :: _) _; refine wp_if_eqB (pc := 97) (tgt := 115) dX7_reads_97 (by decide) (fun c97 => ?_) (fun c97 => ?_)) | (with_reducible show WP _ _ _ _ _ _ (Value.int (nI _) :: _) _; refine wp_if_eqN (pc := 97) (tgt := 115) dX7_reads_97 (by decide) (by omega) (fun c97 => ?_) (fun c97 => ?_)) | refine wp_if_eq (pc := 97) (tgt := 115) dX7_reads_97 (by decide) (fun c97 => ?_) (fun c97 => ?_)
      rotate_left
      refine wp_aload_n (pc := 100) (i := 0) dX7_reads_100 rfl rfl ?_
      refine wp_cV0i (pc := 101) lk_X7_119 dX7_reads_101 rfl rfl rfl (sp7_isSort hY1 hB ha' ?_)
      first | (with_reducible show WP _ _ _ _ _ _ (Value.int (bI _) :: _) _; refine wp_if_eqB (pc := 104) (tgt := 115) dX7_reads_104 (by decide) (fun c104 => ?_) (fun c104 => ?_)) | (with_reducible show WP _ _ _ _ _ _ (Value.int (nI _) :: _) _; refine wp_if_eqN (pc := 104) (tgt := 115) dX7_reads_104 (by decide) (by omega) (fun c104 => ?_) (fun c104 => ?_)) | refine wp_if_eq (pc := 104) (tgt := 115) dX7_reads_104 (by decide) (fun c104 => ?_) (fun c104 => ?_)
      rotate_left
      rotate_left
      · exact absurd c97 (by decide)
      · have c := of_decide_eq_false c104
        exact fin115 V a' h1 v0 hP ha' hY1 hR1 hM1 (by omega) (by rw [hS, rGrs, if_neg c])
      · have c := of_decide_eq_true c104
        have kl := ko_le B a'
        rw [rGrs, if_pos c] at hS
        refine wp_aload_n (pc := 107) (i := 0) dX7_reads_107 rfl rfl ?_
        refine wp_cV0i (pc := 108) lk_X7_122 dX7_reads_108 rfl rfl rfl (sp7_readsGran hY1 hB c hR1 (by omega) v0 v5 (fun h2 r f p a2 q1 q2 q3 q4 q5 q6 q7 q8 => ?_) (fun h2 w a2 q1 q2 q3 q4 q5 => ?_))
        rotate_left
        · refine wp_istore_n (pc := 111) (i := 1) dX7_reads_111 rfl rfl (by decide) rfl ?_
          dsimp only [List.set_cons_zero, List.set_cons_succ]
          refine wp_goto (pc := 112) (tgt := 96) dX7_reads_112 (by decide) ?_
          rotate_left
          exact bad96 h2 (kF h2 w a2 (hS.trans (q1 _)) q2 q3 q4 (hM1.tr q5))
        · obtain ⟨g0, -, -, -, -, g3⟩ := grT_at V (V 1) (ko B a') r f p (by omega)
          refine wp_istore_n (pc := 111) (i := 1) dX7_reads_111 rfl rfl (by decide) rfl ?_
          dsimp only [List.set_cons_zero, List.set_cons_succ]
          refine wp_goto (pc := 112) (tgt := 96) dX7_reads_112 (by decide) ?_
          rotate_left
          exact ih _ a2 h2 (by rw [g0]; omega) (by rw [g3 0 (by omega) (by omega) (by omega) (by omega) (by omega)]; exact v0) (hP.gr (by omega) ⟨c, kl⟩ q2 q3 q4) q5 q6 q7 (hM1.tr q8) (hS.trans (q1 _)) (Or.inr (by rw [g0]; omega))
  have at77 : ∀ V a' h1, 0 < V 0 → V 1 = 0 → PT V → a' ≤ B.length → RY h1 B a' → RW h1 1512 V → FM h h1 → rTown B = rGrs1 B V a' → WP G (d + 4) mX7_reads (pI K) 77 [some (.ref 89), some (.int (nI 1))] [] h1 := by
    intro V a' h1 v0 v1 hP ha' hY1 hR1 hM1 hS
    refine wp_iload_n (pc := 77) (i := 1) dX7_reads_77 rfl rfl ?_
    first | (with_reducible show WP _ _ _ _ _ _ (Value.int (bI _) :: _) _; refine wp_if_neB (pc := 78) (tgt := 83) dX7_reads_78 (by decide) (fun c78 => ?_) (fun c78 => ?_)) | (with_reducible show WP _ _ _ _ _ _ (Value.int (nI _) :: _) _; refine wp_if_neN (pc := 78) (tgt := 83) dX7_reads_78 (by decide) (by omega) (fun c78 => ?_) (fun c78 => ?_)) | refine wp_if_ne (pc := 78) (tgt := 83) dX7_reads_78 (by decide) (fun c78 => ?_) (fun c78 => ?_)
    refine wp_aload_n (pc := 83) (i := 0) dX7_reads_83 rfl rfl ?_
    refine wp_cV0i (pc := 84) lk_X7_119 dX7_reads_84 rfl rfl rfl (sp7_isSort hY1 hB ha' ?_)
    first | (with_reducible show WP _ _ _ _ _ _ (Value.int (bI _) :: _) _; refine wp_if_neB (pc := 87) (tgt := 96) dX7_reads_87 (by decide) (fun c87 => ?_) (fun c87 => ?_)) | (with_reducible show WP _ _ _ _ _ _ (Value.int (nI _) :: _) _; refine wp_if_neN (pc := 87) (tgt := 96) dX7_reads_87 (by decide) (by omega) (fun c87 => ?_) (fun c87 => ?_)) | refine wp_if_ne (pc := 87) (tgt := 96) dX7_reads_87 (by decide) (fun c87 => ?_) (fun c87 => ?_)
    rotate_left
    refine wp_aload_n (pc := 90) (i := 0) dX7_reads_90 rfl rfl ?_
    refine wp_iconst (pc := 91) (v := nI 1) dX7_reads_91 rfl ?_
    refine wp_cV1i (pc := 92) lk_X7_93 dX7_reads_92 rfl rfl rfl (sp7_refuse hY1 (fun h2 r f2 => ?_))
    refine wp_zret (pc := 95) dX7_reads_95 rfl (by first | exact Or.inl rfl | exact Or.inr rfl | assumption | exact bI_01 _) ?_
    rotate_left
    rotate_left
    · have c := of_decide_eq_true c87
      exact gl 6 V a' h1 (by omega) v0 hP ha' hY1 hR1 hM1 (by rw [hS, rGrs1, if_pos c]) (Or.inl c)
    · have c := of_decide_eq_false c87
      exact kF h2 1 a' (by rw [hS, rGrs1, if_neg c]) (by omega) ha' r (hM1.f9 f2)
    · exact absurd c78 (by decide)
  have cl : ∀ m V a' h1, V 0 + m = 5 → V 1 = 0 → PT V → a' ≤ B.length → RY h1 B a' → RW h1 1512 V → FM h h1 → rTown B = rChs B (rGrs1 B) m V a' → (B[a']? = some 99 ∨ 0 < V 0) → WP G (d + 4) mX7_reads (pI K) 56 [some (.ref 89), some (.int (nI 1))] [] h1 := by
    intro m
    induction m with
    | zero =>
      intro V a' h1 hm v1 hP ha' hY1 hR1 hM1 hS hv
      refine wp_iload_n (pc := 56) (i := 1) dX7_reads_56 rfl rfl ?_
      first | (with_reducible show WP _ _ _ _ _ _ (Value.int (bI _) :: _) _; refine wp_if_eqB (pc := 57) (tgt := 77) dX7_reads_57 (by decide) (fun c57 => ?_) (fun c57 => ?_)) | (with_reducible show WP _ _ _ _ _ _ (Value.int (nI _) :: _) _; refine wp_if_eqN (pc := 57) (tgt := 77) dX7_reads_57 (by decide) (by omega) (fun c57 => ?_) (fun c57 => ?_)) | refine wp_if_eq (pc := 57) (tgt := 77) dX7_reads_57 (by decide) (fun c57 => ?_) (fun c57 => ?_)
      rotate_left
      refine wp_aload_n (pc := 60) (i := 0) dX7_reads_60 rfl rfl ?_
      refine wp_bipush (pc := 61) (v := nI 99) dX7_reads_61 rfl ?_
      refine wp_cV1i (pc := 63) lk_X7_90 dX7_reads_63 rfl rfl rfl (sp7_isLetter hY1 hB ha' (by omega) ?_)
      first | (with_reducible show WP _ _ _ _ _ _ (Value.int (bI _) :: _) _; refine wp_if_eqB (pc := 66) (tgt := 77) dX7_reads_66 (by decide) (fun c66 => ?_) (fun c66 => ?_)) | (with_reducible show WP _ _ _ _ _ _ (Value.int (nI _) :: _) _; refine wp_if_eqN (pc := 66) (tgt := 77) dX7_reads_66 (by decide) (by omega) (fun c66 => ?_) (fun c66 => ?_)) | refine wp_if_eq (pc := 66) (tgt := 77) dX7_reads_66 (by decide) (fun c66 => ?_) (fun c66 => ?_)
      rotate_left
      refine wp_aload_n (pc := 69) (i := 0) dX7_reads_69 rfl rfl ?_
      refine wp_cV0i (pc := 70) lk_X7_116 dX7_reads_70 rfl rfl rfl (sp7_readsChild5 hY1 hR1 (by omega) (fun h2 r f2 => ?_))
      rotate_left
      · exact absurd c57 (by decide)
      · have c := of_decide_eq_false c66
        exact at77 V a' h1 (by omega) v1 hP ha' hY1 hR1 hM1 (by rw [hS, rChs, if_neg c])
      · have c := of_decide_eq_true c66
        refine wp_istore_n (pc := 73) (i := 1) dX7_reads_73 rfl rfl (by decide) rfl ?_
        dsimp only [List.set_cons_zero, List.set_cons_succ]
        refine wp_goto (pc := 74) (tgt := 56) dX7_reads_74 (by decide) ?_
        rotate_left
        exact bad56 h2 (kF h2 3 a' (by rw [hS, rChs, if_pos c]) (by omega) ha' r (hM1.f9 f2))
    | succ m ih =>
      intro V a' h1 hm v1 hP ha' hY1 hR1 hM1 hS hv
      refine wp_iload_n (pc := 56) (i := 1) dX7_reads_56 rfl rfl ?_
      first | (with_reducible show WP _ _ _ _ _ _ (Value.int (bI _) :: _) _; refine wp_if_eqB (pc := 57) (tgt := 77) dX7_reads_57 (by decide) (fun c57 => ?_) (fun c57 => ?_)) | (with_reducible show WP _ _ _ _ _ _ (Value.int (nI _) :: _) _; refine wp_if_eqN (pc := 57) (tgt := 77) dX7_reads_57 (by decide) (by omega) (fun c57 => ?_) (fun c57 => ?_)) | refine wp_if_eq (pc := 57) (tgt := 77) dX7_reads_57 (by decide) (fun c57 => ?_) (fun c57 => ?_)
      rotate_left
      refine wp_aload_n (pc := 60) (i := 0) dX7_reads_60 rfl rfl ?_
      refine wp_bipush (pc := 61) (v := nI 99) dX7_reads_61 rfl ?_
      refine wp_cV1i (pc := 63) lk_X7_90 dX7_reads_63 rfl rfl rfl (sp7_isLetter hY1 hB ha' (by omega) ?_)
      first | (with_reducible show WP _ _ _ _ _ _ (Value.int (bI _) :: _) _; refine wp_if_eqB (pc := 66) (tgt := 77) dX7_reads_66 (by decide) (fun c66 => ?_) (fun c66 => ?_)) | (with_reducible show WP _ _ _ _ _ _ (Value.int (nI _) :: _) _; refine wp_if_eqN (pc := 66) (tgt := 77) dX7_reads_66 (by decide) (by omega) (fun c66 => ?_) (fun c66 => ?_)) | refine wp_if_eq (pc := 66) (tgt := 77) dX7_reads_66 (by decide) (fun c66 => ?_) (fun c66 => ?_)
      rotate_left
      rotate_left
      · exact absurd c57 (by decide)
      · have c := of_decide_eq_false c66
        exact at77 V a' h1 (by rcases hv with q | q; exact absurd q c; exact q) v1 hP ha' hY1 hR1 hM1 (by rw [hS, rChs, if_neg c])
      · have c := of_decide_eq_true c66
        rw [rChs, if_pos c] at hS
        have ha1 : a' + 1 ≤ B.length := by have := (List.getElem?_eq_some_iff.mp c).1; omega
        refine wp_aload_n (pc := 69) (i := 0) dX7_reads_69 rfl rfl ?_
        refine wp_cV0i (pc := 70) lk_X7_116 dX7_reads_70 rfl rfl rfl (sp7_readsChild hY1 hB ha1 hR1 (by omega) (fun h2 f s a2 q1 q2 q3 q4 q5 q6 q7 => ?_) (fun h2 w a2 q1 q2 q3 q4 q5 => ?_))
        rotate_left
        · refine wp_istore_n (pc := 73) (i := 1) dX7_reads_73 rfl rfl (by decide) rfl ?_
          dsimp only [List.set_cons_zero, List.set_cons_succ]
          refine wp_goto (pc := 74) (tgt := 56) dX7_reads_74 (by decide) ?_
          rotate_left
          exact bad56 h2 (kF h2 w a2 (hS.trans (q1 _)) q2 q3 q4 (hM1.tr q5))
        · obtain ⟨g0, -, -, g3⟩ := chT_at V (V 0) f s (by omega)
          refine wp_istore_n (pc := 73) (i := 1) dX7_reads_73 rfl rfl (by decide) rfl ?_
          dsimp only [List.set_cons_zero, List.set_cons_succ]
          refine wp_goto (pc := 74) (tgt := 56) dX7_reads_74 (by decide) ?_
          rotate_left
          exact ih _ a2 h2 (by rw [g0]; omega) (by rw [g3 1 (by omega) (by omega) (by omega)]; exact v1) (hP.ch v1 (by omega) q2 q3) q4 q5 q6 (hM1.tr q7) (hS.trans (q1 _)) (Or.inr (by rw [g0]; omega))
  have zl : ∀ m i h1, i + m = 56 → (∀ k, k < i → h1 90 (1512 + k) = nI 0) → FM h h1 → RB h1 B → WP G (d + 4) mX7_reads (pI K) 2 [some (.ref 89), some (.int (nI i))] [] h1 := by
    intro m
    induction m with
    | zero =>
      intro i h1 him hz hM1 hRB1
      have hR1 : RW h1 1512 zT := fun k hk => hz k (by omega)
      have F0 : F9 h1 (hs h1 89 13 (nI 0)) := (F9.rf h1).hs (by omega)
      have Y0 : RY (hs h1 89 13 (nI 0)) B 0 := ⟨hRB1.f9 F0, hs_same _ _ _ _⟩
      have R0 := hR1.f9 F0
      have M0 := hM1.f9 F0
      refine wp_iload_n (pc := 2) (i := 1) dX7_reads_2 rfl rfl ?_
      refine wp_bipush (pc := 3) (v := nI 56) dX7_reads_3 rfl ?_
      first | (with_reducible show WP _ _ _ _ _ _ (Value.int (nI _) :: Value.int (nI _) :: _) _; refine wp_icmp_geN (pc := 5) (tgt := 25) dX7_reads_5 (by decide) (by omega) (by omega) (fun c5 => ?_) (fun c5 => ?_)) | refine wp_icmp_ge (pc := 5) (tgt := 25) dX7_reads_5 (by decide) (fun c5 => ?_) (fun c5 => ?_)
      refine wp_aload_n (pc := 25) (i := 0) dX7_reads_25 rfl rfl ?_
      refine wp_iconst (pc := 26) (v := nI 0) dX7_reads_26 rfl ?_
      refine wp_pf (pc := 27) fp_X7_80 dX7_reads_27 rfl rfl rfl rfl ?_
      rotate_left
      rotate_left
      · generalize hs h1 89 13 (nI 0) = h0 at *
        refine wp_aload_n (pc := 30) (i := 0) dX7_reads_30 rfl rfl ?_
        refine wp_cV0i (pc := 31) lk_X7_112 dX7_reads_31 rfl rfl rfl (sp7_readsLaw Y0 hB R0 (fun h2 e p a2 q1 q2 q3 q4 q5 q6 q7 => ?_) (fun h2 w a2 q1 q2 q3 q4 q5 => ?_))
        rotate_left
        · first | (with_reducible show WP _ _ _ _ _ _ (Value.int (bI _) :: _) _; refine wp_if_neB (pc := 34) (tgt := 39) dX7_reads_34 (by decide) (fun c34 => ?_) (fun c34 => ?_)) | (with_reducible show WP _ _ _ _ _ _ (Value.int (nI _) :: _) _; refine wp_if_neN (pc := 34) (tgt := 39) dX7_reads_34 (by decide) (by omega) (fun c34 => ?_) (fun c34 => ?_)) | refine wp_if_ne (pc := 34) (tgt := 39) dX7_reads_34 (by decide) (fun c34 => ?_) (fun c34 => ?_)
          rotate_left
          refine wp_iconst (pc := 37) (v := nI 0) dX7_reads_37 rfl ?_
          refine wp_zret (pc := 38) dX7_reads_38 rfl (by first | exact Or.inl rfl | exact Or.inr rfl | assumption | exact bI_01 _) ?_
          rotate_left
          · exact absurd rfl c34
          · exact kF h2 w a2 (q1 _) q2 q3 q4 (M0.tr q5)
        have q1 : rTown B = _ := q1 (fun T a => if B[a]? = some 99 then rChs B (rGrs1 B) 5 T a else rno 1 a)
        first | (with_reducible show WP _ _ _ _ _ _ (Value.int (bI _) :: _) _; refine wp_if_neB (pc := 34) (tgt := 39) dX7_reads_34 (by decide) (fun c34 => ?_) (fun c34 => ?_)) | (with_reducible show WP _ _ _ _ _ _ (Value.int (nI _) :: _) _; refine wp_if_neN (pc := 34) (tgt := 39) dX7_reads_34 (by decide) (by omega) (fun c34 => ?_) (fun c34 => ?_)) | refine wp_if_ne (pc := 34) (tgt := 39) dX7_reads_34 (by decide) (fun c34 => ?_) (fun c34 => ?_)
        refine wp_aload_n (pc := 39) (i := 0) dX7_reads_39 rfl rfl ?_
        refine wp_bipush (pc := 40) (v := nI 99) dX7_reads_40 rfl ?_
        refine wp_cV1i (pc := 42) lk_X7_90 dX7_reads_42 rfl rfl rfl (sp7_isLetter q5 hB q4 (by omega) ?_)
        first | (with_reducible show WP _ _ _ _ _ _ (Value.int (bI _) :: _) _; refine wp_if_neB (pc := 45) (tgt := 54) dX7_reads_45 (by decide) (fun c45 => ?_) (fun c45 => ?_)) | (with_reducible show WP _ _ _ _ _ _ (Value.int (nI _) :: _) _; refine wp_if_neN (pc := 45) (tgt := 54) dX7_reads_45 (by decide) (by omega) (fun c45 => ?_) (fun c45 => ?_)) | refine wp_if_ne (pc := 45) (tgt := 54) dX7_reads_45 (by decide) (fun c45 => ?_) (fun c45 => ?_)
        rotate_left
        refine wp_aload_n (pc := 48) (i := 0) dX7_reads_48 rfl rfl ?_
        refine wp_iconst (pc := 49) (v := nI 1) dX7_reads_49 rfl ?_
        refine wp_cV1i (pc := 50) lk_X7_93 dX7_reads_50 rfl rfl rfl (sp7_refuse q5 (fun h3 r f3 => ?_))
        refine wp_zret (pc := 53) dX7_reads_53 rfl (by first | exact Or.inl rfl | exact Or.inr rfl | assumption | exact bI_01 _) ?_
        rotate_left
        rotate_left
        · have c := of_decide_eq_true c45
          refine wp_iconst (pc := 54) (v := nI 1) dX7_reads_54 rfl ?_
          refine wp_istore_n (pc := 55) (i := 1) dX7_reads_55 rfl rfl (by decide) rfl ?_
          dsimp only [List.set_cons_zero, List.set_cons_succ]
          rotate_left
          exact cl 5 _ a2 h2 rfl rfl (PT.law q2 q3) q4 q5 q6 (M0.tr q7) (by rw [q1, if_pos c]) (Or.inl c)
        · have c := of_decide_eq_false c45
          exact kF h3 1 a2 (by rw [q1, if_neg c]) (by omega) q4 r ((M0.tr q7).f9 f3)
        · exact absurd c34 (by decide)
      · exact absurd him (by omega)
    | succ m ih =>
      intro i h1 him hz hM1 hRB1
      refine wp_iload_n (pc := 2) (i := 1) dX7_reads_2 rfl rfl ?_
      refine wp_bipush (pc := 3) (v := nI 56) dX7_reads_3 rfl ?_
      first | (with_reducible show WP _ _ _ _ _ _ (Value.int (nI _) :: Value.int (nI _) :: _) _; refine wp_icmp_geN (pc := 5) (tgt := 25) dX7_reads_5 (by decide) (by omega) (by omega) (fun c5 => ?_) (fun c5 => ?_)) | refine wp_icmp_ge (pc := 5) (tgt := 25) dX7_reads_5 (by decide) (fun c5 => ?_) (fun c5 => ?_)
      rotate_left
      refine wp_aload_n (pc := 8) (i := 0) dX7_reads_8 rfl rfl ?_
      refine wp_gfr (pc := 9) fk_X7_7 dX7_reads_9 rfl rfl (by decide) ?_
      refine wp_sipush (pc := 12) (v := nI 1512) dX7_reads_12 rfl ?_
      refine wp_iload_n (pc := 15) (i := 1) dX7_reads_15 rfl rfl ?_
      first | (with_reducible show WP _ _ _ _ _ _ (Value.int (nI _) :: Value.int (nI _) :: _) _; refine wp_iaddN (pc := 16) dX7_reads_16 ?_) | refine wp_iadd (pc := 16) dX7_reads_16 ?_
      refine wp_iconst (pc := 17) (v := nI 0) dX7_reads_17 rfl ?_
      first | (with_reducible show WP _ _ _ _ _ _ (_ :: Value.int (nI _) :: _) _; refine wp_iastN (pc := 18) dX7_reads_18 rfl (by omega) ?_) | refine wp_iast (pc := 18) dX7_reads_18 rfl (by assumption) rfl ?_
      first | refine wp_iincN (pc := 19) (i := 1) (n := 1) dX7_reads_19 rfl rfl (by decide) rfl ?_ | refine wp_iinc (pc := 19) (i := 1) dX7_reads_19 rfl rfl rfl (by decide) rfl ?_
      dsimp only [List.set_cons_zero, List.set_cons_succ]
      refine wp_goto (pc := 22) (tgt := 2) dX7_reads_22 (by decide) ?_
      rotate_left
      · exact absurd him (by omega)
      refine ih (i + 1) _ (by omega) (fun k hk => ?_) (hM1.hs (by omega)) (hRB1.cg (by rw [hs_ne (by decide)]) (hs_ne (by decide)))
      by_cases y : k = i
      · subst y; exact hs_same _ _ _ _
      · rw [hs_ix (by omega)]; exact hz k (by omega)
  refine wp_iconst (pc := 0) (v := nI 0) dX7_reads_0 rfl ?_
  refine wp_istore_n (pc := 1) (i := 1) dX7_reads_1 rfl rfl (by decide) rfl ?_
  dsimp only [List.set_cons_zero, List.set_cons_succ]
  rotate_left
  exact zl 56 0 h (by omega) (fun k hk => absurd hk (by omega)) (FM.rf h) hRB
theorem sr_town {K : Int32 → Hp → Prop} (H : RI h σ) (hO : OKS σ)
    (k1 : ∀ w a, rTown (gB σ) = rno w a → ∀ h', RI h' (upBF σ w) → DS h h' → K (kFAULT - nI a) h')
    (k2 : ∀ T a, rTown (gB σ) = rok T a → ∀ h', RI h' (upTB σ T) → DS h h' → K (nI (T 1)) h') : Call G (d + 5) mX7_town [.ref 89] h (pI K) := by
  obtain ⟨a1, a2, a3, a4, a5, a6, a7, a8, a9⟩ := id H
  have hB : OB (gB σ) := hO.2.2.2.2.1
  refine Call.of (M := mX7_town) (n := 1) (by decide +kernel) rfl ?_
  show WP _ _ _ _ 0 [some (.ref 89), none] [] _
  refine wp_aload_n (pc := 0) (i := 0) dX7_town_0 rfl rfl ?_
  refine wp_cV0i (pc := 1) lk_X7_125 dX7_town_1 rfl rfl rfl (sp7_reads a6 hB (fun h1 T a e hP t0 t1 hR1 hB1 hM1 => ?_) (fun h1 w a e w3 ha hF1 hM1 => ?_))
  rotate_left
  · obtain ⟨f1, f2, f3⟩ := hF1
    have x14 : hs h1 89 8 (nI 0) 89 14 = nI w := by rw [hs_ix (by decide)]; exact f3
    have x13 : hs (hs h1 89 8 (nI 0)) 89 9 (nI w) 89 13 = nI a := by rw [hs_ix (by decide), hs_ix (by decide)]; exact f2
    refine wp_istore_n (pc := 4) (i := 1) dX7_town_4 rfl rfl (by decide) rfl ?_
    dsimp only [List.set_cons_zero, List.set_cons_succ]
    refine wp_aload_n (pc := 5) (i := 0) dX7_town_5 rfl rfl ?_
    refine wp_iconst (pc := 6) (v := nI 0) dX7_town_6 rfl ?_
    refine wp_pf (pc := 7) fp_X7_76 dX7_town_7 rfl rfl rfl rfl ?_
    refine wp_iload_n (pc := 10) (i := 1) dX7_town_10 rfl rfl ?_
    first | (with_reducible show WP _ _ _ _ _ _ (Value.int (bI _) :: _) _; refine wp_if_neB (pc := 11) (tgt := 30) dX7_town_11 (by decide) (fun c11 => ?_) (fun c11 => ?_)) | (with_reducible show WP _ _ _ _ _ _ (Value.int (nI _) :: _) _; refine wp_if_neN (pc := 11) (tgt := 30) dX7_town_11 (by decide) (by omega) (fun c11 => ?_) (fun c11 => ?_)) | refine wp_if_ne (pc := 11) (tgt := 30) dX7_town_11 (by decide) (fun c11 => ?_) (fun c11 => ?_)
    rotate_left
    refine wp_aload_n (pc := 14) (i := 0) dX7_town_14 rfl rfl ?_
    refine wp_aload_n (pc := 15) (i := 0) dX7_town_15 rfl rfl ?_
    refine wp_gfv (pc := 16) fk_X7_87 dX7_town_16 rfl rfl (by first | with_reducible assumption | with_reducible exact hs_same _ _ _ _ | rfl) ?_
    refine wp_pf (pc := 19) fp_X7_128 dX7_town_19 rfl rfl rfl rfl ?_
    refine wp_ldc (pc := 22) kn_X7_131 dX7_town_22 ?_
    refine wp_aload_n (pc := 24) (i := 0) dX7_town_24 rfl rfl ?_
    refine wp_gfv (pc := 25) fk_X7_80 dX7_town_25 rfl rfl (by first | with_reducible assumption | with_reducible exact hs_same _ _ _ _ | rfl) ?_
    first | (with_reducible show WP _ _ _ _ _ _ (Value.int (nI _) :: Value.int (nI _) :: _) _; refine wp_isubN (pc := 28) dX7_town_28 (by omega) ?_) | refine wp_isub (pc := 28) dX7_town_28 ?_
    refine wp_iret (pc := 29) dX7_town_29 rfl ?_
    rotate_left
    · exact absurd rfl c11
    have fr : ∀ q, q ≠ 89 → q ≠ 90 → hs (hs h1 89 8 (nI 0)) 89 9 (nI w) q = h q := fun q q1 q2 => by rw [hs_ne q1, hs_ne q1]; exact hM1.1 q q1 q2
    have f89 : ∀ i, i ≠ 8 → i ≠ 9 → (i < 13 ∨ 15 < i) → hs (hs h1 89 8 (nI 0)) 89 9 (nI w) 89 i = h 89 i := fun i i1 i2 i3 => by rw [hs_ix i2, hs_ix i1]; exact hM1.2.1 i i3
    have f90 : ∀ k, k < 1512 → hs (hs h1 89 8 (nI 0)) 89 9 (nI w) 90 k = h 90 k := fun k hk => by rw [hs_ne (by decide), hs_ne (by decide)]; exact hM1.2.2 k hk
    refine k1 w a e _ ⟨?_, ?_, ?_, ?_, ?_, ?_, ?_, ?_, ?_⟩ (fun q hq => fr q (by omega) (by omega))
    · exact a1.cg (fun k _ hk => f90 k (by omega))
    · rw [f89 1 (by decide) (by decide) (by decide)]; exact a2
    · exact a3.cg (f89 2 (by decide) (by decide) (by decide)) (fun k _ hk => f90 k (by omega))
    · exact a4.cg (fr 91 (by decide) (by decide)) (fun k _ hk => f90 k (by omega))
    · exact a5.cg (fr 92 (by decide) (by decide)) (fr 93 (by decide) (by decide)) (fr 94 (by decide) (by decide))
    · exact ⟨by rw [hs_ix (by decide)]; exact hs_same _ _ _ _, fun i b hb => by
        have hb : ([] : List Nat)[i]? = some b := hb
        simp at hb⟩
    · exact hs_same _ _ _ _
    · rw [f89 10 (by decide) (by decide) (by decide)]; exact a8
    · exact a9.cg (f89 12 (by decide) (by decide) (by decide)) (fr 96 (by decide) (by decide))
  · have R1 : RW (hs h1 89 8 (nI 0)) 1512 T := hR1.cg (fun k _ _ => by rw [hs_ne (by decide)])
    refine wp_istore_n (pc := 4) (i := 1) dX7_town_4 rfl rfl (by decide) rfl ?_
    dsimp only [List.set_cons_zero, List.set_cons_succ]
    refine wp_aload_n (pc := 5) (i := 0) dX7_town_5 rfl rfl ?_
    refine wp_iconst (pc := 6) (v := nI 0) dX7_town_6 rfl ?_
    refine wp_pf (pc := 7) fp_X7_76 dX7_town_7 rfl rfl rfl rfl ?_
    refine wp_iload_n (pc := 10) (i := 1) dX7_town_10 rfl rfl ?_
    first | (with_reducible show WP _ _ _ _ _ _ (Value.int (bI _) :: _) _; refine wp_if_neB (pc := 11) (tgt := 30) dX7_town_11 (by decide) (fun c11 => ?_) (fun c11 => ?_)) | (with_reducible show WP _ _ _ _ _ _ (Value.int (nI _) :: _) _; refine wp_if_neN (pc := 11) (tgt := 30) dX7_town_11 (by decide) (by omega) (fun c11 => ?_) (fun c11 => ?_)) | refine wp_if_ne (pc := 11) (tgt := 30) dX7_town_11 (by decide) (fun c11 => ?_) (fun c11 => ?_)
    refine wp_aload_n (pc := 30) (i := 0) dX7_town_30 rfl rfl ?_
    refine wp_sipush (pc := 31) (v := nI 1512) dX7_town_31 rfl ?_
    refine wp_iconst (pc := 34) (v := nI 0) dX7_town_34 rfl ?_
    refine wp_cV2v (pc := 35) lk_X7_132 dX7_town_35 rfl rfl rfl (sp7_copyTown R1 (by omega) (by omega) (by omega) (fun h2 hR2 hF2 => ?_))
    rotate_left
    rotate_left
    · have x1 : hs (hs h2 89 1 (nI 1)) 89 2 (nI 0) 90 1 = nI (T 1) := by rw [hs_ne (by decide), hs_ne (by decide)]; have := hR2 1 (by omega); rwa [Nat.zero_add] at this
      refine wp_aload_n (pc := 38) (i := 0) dX7_town_38 rfl rfl ?_
      refine wp_iconst (pc := 39) (v := nI 1) dX7_town_39 rfl ?_
      refine wp_pf (pc := 40) fp_X7_136 dX7_town_40 rfl rfl rfl rfl ?_
      refine wp_aload_n (pc := 43) (i := 0) dX7_town_43 rfl rfl ?_
      refine wp_iconst (pc := 44) (v := nI 0) dX7_town_44 rfl ?_
      refine wp_pf (pc := 45) fp_X7_140 dX7_town_45 rfl rfl rfl rfl ?_
      refine wp_aload_n (pc := 48) (i := 0) dX7_town_48 rfl rfl ?_
      refine wp_gfr (pc := 49) fk_X7_7 dX7_town_49 rfl rfl (by decide) ?_
      refine wp_iconst (pc := 52) (v := nI 1) dX7_town_52 rfl ?_
      first | (with_reducible show WP _ _ _ _ _ _ (Value.int (nI _) :: _) _; refine wp_ialdN (pc := 53) dX7_town_53 rfl (by omega) (by first | with_reducible assumption | with_reducible exact hs_same _ _ _ _ | rfl) ?_) | refine wp_iald (pc := 53) dX7_town_53 rfl (by assumption) rfl ?_
      refine wp_iret (pc := 54) dX7_town_54 rfl ?_
      rotate_left
      have fr : ∀ q, q ≠ 89 → q ≠ 90 → hs (hs h2 89 1 (nI 1)) 89 2 (nI 0) q = h q := fun q q1 q2 => by rw [hs_ne q1, hs_ne q1, hF2.1 q q2, hs_ne q1]; exact hM1.1 q q1 q2
      have f89 : ∀ i, i ≠ 1 → i ≠ 2 → i ≠ 8 → (i < 13 ∨ 15 < i) → hs (hs h2 89 1 (nI 1)) 89 2 (nI 0) 89 i = h 89 i := fun i i1 i2 i3 i4 => by rw [hs_ix i2, hs_ix i1, hF2.1 89 (by decide), hs_ix i3]; exact hM1.2.1 i i4
      have f90 : ∀ k, 56 ≤ k → k < 1512 → hs (hs h2 89 1 (nI 1)) 89 2 (nI 0) 90 k = h 90 k := fun k hk1 hk => by rw [hs_ne (by decide), hs_ne (by decide), hF2.2 k (by omega), hs_ne (by decide)]; exact hM1.2.2 k hk
      refine k2 T a e _ ⟨?_, ?_, ?_, ?_, ?_, ?_, ?_, ?_, ?_⟩ (fun q hq => fr q (by omega) (by omega))
      · exact hR2.cg (fun k _ _ => by rw [hs_ne (by decide), hs_ne (by decide)])
      · show _ = nI (if 0 < T 1 then 1 else 0)
        rw [if_pos t1, hs_ix (by decide)]; exact hs_same _ _ _ _
      · exact ⟨hs_same _ _ _ _, Nat.zero_le _, fun j U hj => by
          have hj : ([] : List Tn)[j]? = some U := hj
          simp at hj⟩
      · exact a4.cg (fr 91 (by decide) (by decide)) (fun k k1 hk => f90 k (by omega) (by omega))
      · exact a5.cg (fr 92 (by decide) (by decide)) (fr 93 (by decide) (by decide)) (fr 94 (by decide) (by decide))
      · refine ⟨?_, fun i b hb => by
          have hb : ([] : List Nat)[i]? = some b := hb
          simp at hb⟩
        rw [hs_ix (by decide), hs_ix (by decide), hF2.1 89 (by decide)]; exact hs_same _ _ _ _
      · rw [f89 9 (by decide) (by decide) (by decide) (by decide)]; exact a7
      · rw [f89 10 (by decide) (by decide) (by decide) (by decide)]; exact a8
      · exact a9.cg (f89 12 (by decide) (by decide) (by decide) (by decide)) (fr 96 (by decide) (by decide))
    · exact absurd c11 (by decide)
end RTOWN2
