section DREAD4
variable {G : Gt} {d : Nat} {h : Hp} {B : List Nat} {f a : Nat} {T : Tn}
/-- once there is a fault, the children's loop ends and changes nothing more -/
theorem rc_flt {c : Nat} {h1 : Hp} {K : Hp → Prop} (hX : RX h1 B f a) (hB : OB B) (ha : a ≤ B.length) (hf : f ≤ 3) (hf0 : ¬ f = 0) (hc : c ≤ 5) (k : K h1) : WP G (d + 1) mX2_readChildren (pV K) 2 [some (.ref 13), some (.int (nI c))] [] h1 := by
  obtain ⟨⟨b1, b2⟩, x1, x2, x3⟩ := id hX
  have l := hB.1
  have e128 : WP G (d + 1) mX2_readChildren (pV K) 128 [some (.ref 13), some (.int (nI c))] [] h1 := by
    refine wp_vret (pc := 128) dX2_readChildren_128 rfl ?_
    rotate_left
    exact k
  have e103 : WP G (d + 1) mX2_readChildren (pV K) 103 [some (.ref 13), some (.int (nI c))] [] h1 := by
    have all : ∀ x, WP G (d + 1) mX2_readChildren (pV K) 118 [some (.ref 13), some (.int (nI c))] [.int x] h1 := by
      intro x
      refine wp_bipush (pc := 118) (v := nI 99) dX2_readChildren_118 rfl ?_
      refine wp_icmp_ne (pc := 120) (tgt := 128) dX2_readChildren_120 (by decide) (fun _ => e128) (fun _ => ?_)
      refine wp_aload_n (pc := 123) (i := 0) dX2_readChildren_123 rfl rfl ?_
      refine wp_iconst (pc := 124) (v := nI 3) dX2_readChildren_124 rfl ?_
      refine wp_cV1v (pc := 125) lk_X2_77 dX2_readChildren_125 rfl rfl rfl (sp_fail hX hf (by omega) (fun _ => ?_) (fun z => absurd z hf0))
      rotate_left
      exact e128
    refine wp_aload_n (pc := 103) (i := 0) dX2_readChildren_103 rfl rfl ?_
    refine wp_gfr (pc := 104) fk_X2_12 dX2_readChildren_104 rfl rfl (by decide) ?_
    refine wp_gfv (pc := 107) fk_X2_35 dX2_readChildren_107 rfl rfl (by first | with_reducible assumption | with_reducible exact hs_same _ _ _ _ | rfl) ?_
    refine wp_iconst (pc := 110) (v := nI 5) dX2_readChildren_110 rfl ?_
    first | (with_reducible show WP _ _ _ _ _ _ (Value.int (nI _) :: Value.int (nI _) :: _) _; refine wp_icmp_neN (pc := 111) (tgt := 128) dX2_readChildren_111 (by decide) (by omega) (by omega) (fun c111 => ?_) (fun c111 => ?_)) | refine wp_icmp_ne (pc := 111) (tgt := 128) dX2_readChildren_111 (by decide) (fun c111 => ?_) (fun c111 => ?_)
    rotate_left
    refine wp_aload_n (pc := 114) (i := 0) dX2_readChildren_114 rfl rfl ?_
    refine wp_cV0i (pc := 115) lk_X2_64 dX2_readChildren_115 rfl rfl rfl ?_
    rotate_left
    · exact e128
    · exact sp_nextByte hX hB (by omega) (fun b _ _ => all _) (fun _ => all _)
  refine wp_iload_n (pc := 2) (i := 1) dX2_readChildren_2 rfl rfl ?_
  refine wp_iconst (pc := 3) (v := nI 5) dX2_readChildren_3 rfl ?_
  first | (with_reducible show WP _ _ _ _ _ _ (Value.int (nI _) :: Value.int (nI _) :: _) _; refine wp_icmp_geN (pc := 4) (tgt := 103) dX2_readChildren_4 (by decide) (by omega) (by omega) (fun c4 => ?_) (fun c4 => ?_)) | refine wp_icmp_ge (pc := 4) (tgt := 103) dX2_readChildren_4 (by decide) (fun c4 => ?_) (fun c4 => ?_)
  rotate_left
  refine wp_aload_n (pc := 7) (i := 0) dX2_readChildren_7 rfl rfl ?_
  refine wp_gfv (pc := 8) fk_X2_29 dX2_readChildren_8 rfl rfl (by first | with_reducible assumption | with_reducible exact hs_same _ _ _ _ | rfl) ?_
  first | (with_reducible show WP _ _ _ _ _ _ (Value.int (bI _) :: _) _; refine wp_if_neB (pc := 11) (tgt := 103) dX2_readChildren_11 (by decide) (fun c11 => ?_) (fun c11 => ?_)) | (with_reducible show WP _ _ _ _ _ _ (Value.int (nI _) :: _) _; refine wp_if_neN (pc := 11) (tgt := 103) dX2_readChildren_11 (by decide) (by omega) (fun c11 => ?_) (fun c11 => ?_)) | refine wp_if_ne (pc := 11) (tgt := 103) dX2_readChildren_11 (by decide) (fun c11 => ?_) (fun c11 => ?_)
  rotate_left
  rotate_left
  · exact e103
  · exact e103
  · exact absurd c11 hf0
theorem sp_readChildrenF {K : Hp → Prop} (hX : RX h B f a) (hB : OB B) (ha : a ≤ B.length) (hf : f ≤ 3) (hf0 : ¬ f = 0) (k : K h) : Call G (d + 1) mX2_readChildren [.ref 13] h (pV K) := by
  refine Call.of (M := mX2_readChildren) (n := 1) (by decide +kernel) rfl ?_
  show WP _ _ _ _ 0 [some (.ref 13), none] [] _
  refine wp_iconst (pc := 0) (v := nI 0) dX2_readChildren_0 rfl ?_
  refine wp_istore_n (pc := 1) (i := 1) dX2_readChildren_1 rfl rfl (by decide) rfl ?_
  dsimp only [List.set_cons_zero, List.set_cons_succ]
  rotate_left
  exact rc_flt hX hB ha hf hf0 (by omega) k
theorem sp_readChildren {K : Hp → Prop} (hX : RX h B 0 a) (hB : OB B) (ha : a ≤ B.length) (hW : TW h 15 T) (hP : PT T) (hT0 : T 0 = 0) (hT1 : T 1 = 0)
    (kO : ∀ h' T' a', (∀ k, (if B[a]? = some 99 then rChs B k 5 T a else rno 1 a) = k T' a') → PT T' → 0 < T' 0 → T' 1 = 0 → a' ≤ B.length → RX h' B 0 a' → TW h' 15 T' → FD h h' → K h')
    (kF : ∀ h' w a', (∀ k, (if B[a]? = some 99 then rChs B k 5 T a else rno 1 a) = rno w a') → ¬ w = 0 → w ≤ 3 → a' ≤ B.length → RX h' B w a' → FD h h' → K h') : Call G (d + 2) mX2_readChildren [.ref 13] h (pV K) := by
  refine Call.of (M := mX2_readChildren) (n := 1) (by decide +kernel) rfl ?_
  show WP _ _ _ _ 0 [some (.ref 13), none] [] _
  have l := hB.1
  have loop : ∀ m n V a' h1, n + m = 5 → V 0 = n → V 1 = 0 → PT V → a' ≤ B.length → RX h1 B 0 a' → TW h1 15 V → FD h h1 → (∀ k, (if B[a]? = some 99 then rChs B k 5 T a else rno 1 a) = (if n = 0 ∧ ¬ B[a']? = some 99 then rno 1 a' else rChs B k m V a')) → WP G (d + 2) mX2_readChildren (pV K) 2 [some (.ref 13), some (.int (nI n))] [] h1 := by
    intro m
    induction m with
    | zero =>
      intro n V a' h1 hnm hV0 hV1 hV ha' hX1 hW1 hF1 hS
      obtain ⟨⟨b1, b2⟩, x1, x2, x3⟩ := id hX1
      have e2 : h1 15 2 = nI 5 := by rw [hW1.2.2.1, hV0, show n = 5 by omega]
      have hS : ∀ k, (if B[a]? = some 99 then rChs B k 5 T a else rno 1 a) = (if B[a']? = some 99 then rno 3 a' else k V a') := fun k => by rw [hS k, if_neg (by omega)]; rfl
      have fin : ¬ B[a']? = some 99 → WP G (d + 2) mX2_readChildren (pV K) 128 [some (.ref 13), some (.int (nI n))] [] h1 := by
        intro q
        refine wp_vret (pc := 128) dX2_readChildren_128 rfl ?_
        rotate_left
        exact kO h1 V a' (fun k => by rw [hS k, if_neg q]) hV (by omega) hV1 ha' hX1 hW1 hF1
      have at103 : WP G (d + 2) mX2_readChildren (pV K) 103 [some (.ref 13), some (.int (nI n))] [] h1 := by
        refine wp_aload_n (pc := 103) (i := 0) dX2_readChildren_103 rfl rfl ?_
        refine wp_gfr (pc := 104) fk_X2_12 dX2_readChildren_104 rfl rfl (by decide) ?_
        refine wp_gfv (pc := 107) fk_X2_35 dX2_readChildren_107 rfl rfl (by first | with_reducible assumption | with_reducible exact hs_same _ _ _ _ | rfl) ?_
        refine wp_iconst (pc := 110) (v := nI 5) dX2_readChildren_110 rfl ?_
        first | (with_reducible show WP _ _ _ _ _ _ (Value.int (nI _) :: Value.int (nI _) :: _) _; refine wp_icmp_neN (pc := 111) (tgt := 128) dX2_readChildren_111 (by decide) (by omega) (by omega) (fun c111 => ?_) (fun c111 => ?_)) | refine wp_icmp_ne (pc := 111) (tgt := 128) dX2_readChildren_111 (by decide) (fun c111 => ?_) (fun c111 => ?_)
        rotate_left
        refine wp_aload_n (pc := 114) (i := 0) dX2_readChildren_114 rfl rfl ?_
        refine wp_cV0i (pc := 115) lk_X2_64 dX2_readChildren_115 rfl rfl rfl ?_
        rotate_left
        · exact absurd rfl c111
        refine sp_nextByte hX1 hB (by omega) (fun b hb hb2 => ?_) (fun hb => ?_)
        · refine wp_bipush (pc := 118) (v := nI 99) dX2_readChildren_118 rfl ?_
          first | (with_reducible show WP _ _ _ _ _ _ (Value.int (nI _) :: Value.int (nI _) :: _) _; refine wp_icmp_neN (pc := 120) (tgt := 128) dX2_readChildren_120 (by decide) (by omega) (by omega) (fun c120 => ?_) (fun c120 => ?_)) | refine wp_icmp_ne (pc := 120) (tgt := 128) dX2_readChildren_120 (by decide) (fun c120 => ?_) (fun c120 => ?_)
          rotate_left
          rotate_left
          · exact fin (by rw [hb]; exact fun q => c120 (Option.some.inj q))
          · refine wp_aload_n (pc := 123) (i := 0) dX2_readChildren_123 rfl rfl ?_
            refine wp_iconst (pc := 124) (v := nI 3) dX2_readChildren_124 rfl ?_
            refine wp_cV1v (pc := 125) lk_X2_77 dX2_readChildren_125 rfl rfl rfl (sp_fail hX1 (by omega) (by omega) (fun z => absurd rfl z) (fun _ h2 hX2 e2 => ?_))
            refine wp_vret (pc := 128) dX2_readChildren_128 rfl ?_
            rotate_left
            exact kF h2 3 a' (fun k => by rw [hS k, hb, c120, if_pos rfl]) (by omega) (by omega) ha' hX2 (hF1.e e2)
        · refine wp_bipush (pc := 118) (v := nI 99) dX2_readChildren_118 rfl ?_
          first | (with_reducible show WP _ _ _ _ _ _ (Value.int (nI _) :: Value.int (nI _) :: _) _; refine wp_icmp_neN (pc := 120) (tgt := 128) dX2_readChildren_120 (by decide) (by omega) (by omega) (fun c120 => ?_) (fun c120 => ?_)) | refine wp_icmp_ne (pc := 120) (tgt := 128) dX2_readChildren_120 (by decide) (fun c120 => ?_) (fun c120 => ?_)
          rotate_left
          rotate_left
          · exact fin (by rw [hb]; simp)
          · exact absurd c120 (kM1_ne (by decide))
      refine wp_iload_n (pc := 2) (i := 1) dX2_readChildren_2 rfl rfl ?_
      refine wp_iconst (pc := 3) (v := nI 5) dX2_readChildren_3 rfl ?_
      first | (with_reducible show WP _ _ _ _ _ _ (Value.int (nI _) :: Value.int (nI _) :: _) _; refine wp_icmp_geN (pc := 4) (tgt := 103) dX2_readChildren_4 (by decide) (by omega) (by omega) (fun c4 => ?_) (fun c4 => ?_)) | refine wp_icmp_ge (pc := 4) (tgt := 103) dX2_readChildren_4 (by decide) (fun c4 => ?_) (fun c4 => ?_)
      rotate_left
      rotate_left
      · exact at103
      · exact absurd hnm (by omega)
    | succ m ih =>
      intro n V a' h1 hnm hV0 hV1 hV ha' hX1 hW1 hF1 hS
      obtain ⟨⟨b1, b2⟩, x1, x2, x3⟩ := id hX1
      have ez : h1 15 2 = nI n := by rw [hW1.2.2.1, hV0]
      have hV0' : V 0 < 5 := by omega
      have body : (B[a']? = some 99 ∨ n = 0) → WP G (d + 2) mX2_readChildren (pV K) 27 [some (.ref 13), some (.int (nI n))] [] h1 := by
        intro hcase
        have hn5 : n < 5 := by omega
        refine wp_aload_n (pc := 27) (i := 0) dX2_readChildren_27 rfl rfl ?_
        refine wp_bipush (pc := 28) (v := nI 99) dX2_readChildren_28 rfl ?_
        refine wp_cV1v (pc := 30) lk_X2_50 dX2_readChildren_30 rfl rfl rfl (sp_sign hX1 hB ha' (by omega) (fun p0 p1 l1 h2 hX2 e2 => ?_) (fun p0 p1 h2 hX2 e2 => ?_))
        rotate_left
        · have n0 : n = 0 := by rcases hcase with q | q; exact absurd q p0; exact q
          refine wp_aload_n (pc := 33) (i := 0) dX2_readChildren_33 rfl rfl ?_
          refine wp_gfr (pc := 34) fk_X2_12 dX2_readChildren_34 rfl rfl (by decide) ?_
          refine wp_gfr (pc := 37) fk_X2_68 dX2_readChildren_37 rfl rfl (by decide) ?_
          refine wp_iload_n (pc := 40) (i := 1) dX2_readChildren_40 rfl rfl ?_
          refine wp_aload_n (pc := 41) (i := 0) dX2_readChildren_41 rfl rfl ?_
          refine wp_iconst (pc := 42) (v := nI 0) dX2_readChildren_42 rfl ?_
          refine wp_bipush (pc := 43) (v := nI 60) dX2_readChildren_43 rfl ?_
          refine wp_cV2i (pc := 45) lk_X2_54 dX2_readChildren_45 rfl rfl rfl (sp_numF hX2 hB ha' (by omega) (by omega) (fun x => ?_))
          first | (with_reducible show WP _ _ _ _ _ _ (_ :: Value.int (nI _) :: _) _; refine wp_iastN (pc := 48) dX2_readChildren_48 rfl (by omega) ?_) | refine wp_iast (pc := 48) dX2_readChildren_48 rfl (by assumption) rfl ?_
          refine wp_aload_n (pc := 49) (i := 0) dX2_readChildren_49 rfl rfl ?_
          refine wp_bipush (pc := 50) (v := nI 44) dX2_readChildren_50 rfl ?_
          refine wp_cV1v (pc := 52) lk_X2_50 dX2_readChildren_52 rfl rfl rfl (sp_takeSignF (rx_q hX2 (by omega)) hB ha' (by omega) (by omega) ?_)
          refine wp_aload_n (pc := 55) (i := 0) dX2_readChildren_55 rfl rfl ?_
          refine wp_gfr (pc := 56) fk_X2_12 dX2_readChildren_56 rfl rfl (by decide) ?_
          refine wp_gfr (pc := 59) fk_X2_71 dX2_readChildren_59 rfl rfl (by decide) ?_
          refine wp_iload_n (pc := 62) (i := 1) dX2_readChildren_62 rfl rfl ?_
          refine wp_aload_n (pc := 63) (i := 0) dX2_readChildren_63 rfl rfl ?_
          refine wp_iconst (pc := 64) (v := nI 0) dX2_readChildren_64 rfl ?_
          refine wp_bipush (pc := 65) (v := nI 20) dX2_readChildren_65 rfl ?_
          refine wp_cV2i (pc := 67) lk_X2_54 dX2_readChildren_67 rfl rfl rfl (sp_numF (rx_q hX2 (by omega)) hB ha' (by omega) (by omega) (fun y => ?_))
          first | (with_reducible show WP _ _ _ _ _ _ (_ :: Value.int (nI _) :: _) _; refine wp_iastN (pc := 70) dX2_readChildren_70 rfl (by omega) ?_) | refine wp_iast (pc := 70) dX2_readChildren_70 rfl (by assumption) rfl ?_
          refine wp_aload_n (pc := 71) (i := 0) dX2_readChildren_71 rfl rfl ?_
          refine wp_bipush (pc := 72) (v := nI 59) dX2_readChildren_72 rfl ?_
          refine wp_cV1v (pc := 74) lk_X2_50 dX2_readChildren_74 rfl rfl rfl (sp_takeSignF (rx_q (rx_q hX2 (by omega)) (by omega)) hB ha' (by omega) (by omega) ?_)
          refine wp_aload_n (pc := 77) (i := 0) dX2_readChildren_77 rfl rfl ?_
          refine wp_gfr (pc := 78) fk_X2_12 dX2_readChildren_78 rfl rfl (by decide) ?_
          refine wp_gfr (pc := 81) fk_X2_74 dX2_readChildren_81 rfl rfl (by decide) ?_
          refine wp_iload_n (pc := 84) (i := 1) dX2_readChildren_84 rfl rfl ?_
          refine wp_iconst (pc := 85) (v := nI 0) dX2_readChildren_85 rfl ?_
          first | (with_reducible show WP _ _ _ _ _ _ (_ :: Value.int (nI _) :: _) _; refine wp_iastN (pc := 86) dX2_readChildren_86 rfl (by omega) ?_) | refine wp_iast (pc := 86) dX2_readChildren_86 rfl (by assumption) rfl ?_
          refine wp_aload_n (pc := 87) (i := 0) dX2_readChildren_87 rfl rfl ?_
          refine wp_gfr (pc := 88) fk_X2_12 dX2_readChildren_88 rfl rfl (by decide) ?_
          refine wp_iload_n (pc := 91) (i := 1) dX2_readChildren_91 rfl rfl ?_
          refine wp_iconst (pc := 92) (v := nI 1) dX2_readChildren_92 rfl ?_
          first | (with_reducible show WP _ _ _ _ _ _ (Value.int (nI _) :: Value.int (nI _) :: _) _; refine wp_iaddN (pc := 93) dX2_readChildren_93 ?_) | refine wp_iadd (pc := 93) dX2_readChildren_93 ?_
          refine wp_pf (pc := 94) fp_X2_35 dX2_readChildren_94 rfl rfl rfl rfl ?_
          first | refine wp_iincN (pc := 97) (i := 1) (n := 1) dX2_readChildren_97 rfl rfl (by decide) rfl ?_ | refine wp_iinc (pc := 97) (i := 1) dX2_readChildren_97 rfl rfl rfl (by decide) rfl ?_
          dsimp only [List.set_cons_zero, List.set_cons_succ]
          refine wp_goto (pc := 100) (tgt := 2) dX2_readChildren_100 (by decide) ?_
          rotate_left
          exact rc_flt (rx_q (rx_q (rx_q (rx_q hX2 (by omega)) (by omega)) (by omega)) (by omega)) hB ha' (by omega) (by omega) (by omega) (kF _ 1 a' (fun k => by rw [hS k, if_pos ⟨n0, p0⟩]) (by omega) (by omega) ha' (rx_q (rx_q (rx_q (rx_q hX2 (by omega)) (by omega)) (by omega)) (by omega)) (((((hF1.e e2).hs (by omega)).hs (by omega)).hs (by omega)).hs (by omega)))
        have hS2 : ∀ k, (if B[a]? = some 99 then rChs B k 5 T a else rno 1 a) = rChild B V (a' + 1) (rChs B k m) := fun k => by rw [hS k, if_neg (fun q => q.2 p0), rChs, if_pos p0]
        refine wp_aload_n (pc := 33) (i := 0) dX2_readChildren_33 rfl rfl ?_
        refine wp_gfr (pc := 34) fk_X2_12 dX2_readChildren_34 rfl rfl (by decide) ?_
        refine wp_gfr (pc := 37) fk_X2_68 dX2_readChildren_37 rfl rfl (by decide) ?_
        refine wp_iload_n (pc := 40) (i := 1) dX2_readChildren_40 rfl rfl ?_
        refine wp_aload_n (pc := 41) (i := 0) dX2_readChildren_41 rfl rfl ?_
        refine wp_iconst (pc := 42) (v := nI 0) dX2_readChildren_42 rfl ?_
        refine wp_bipush (pc := 43) (v := nI 60) dX2_readChildren_43 rfl ?_
        refine wp_cV2i (pc := 45) lk_X2_54 dX2_readChildren_45 rfl rfl rfl (sp_num hX2 hB l1 (by omega) (by omega) (fun n1 n2 p2 l2 h3 hX3 e3 => ?_) (fun w w0 w3 p2 x h3 hX3 e3 => ?_))
        rotate_left
        · first | (with_reducible show WP _ _ _ _ _ _ (_ :: Value.int (nI _) :: _) _; refine wp_iastN (pc := 48) dX2_readChildren_48 rfl (by omega) ?_) | refine wp_iast (pc := 48) dX2_readChildren_48 rfl (by assumption) rfl ?_
          refine wp_aload_n (pc := 49) (i := 0) dX2_readChildren_49 rfl rfl ?_
          refine wp_bipush (pc := 50) (v := nI 44) dX2_readChildren_50 rfl ?_
          refine wp_cV1v (pc := 52) lk_X2_50 dX2_readChildren_52 rfl rfl rfl (sp_takeSignF (rx_q hX3 (by omega)) hB (by omega) w3 w0 ?_)
          refine wp_aload_n (pc := 55) (i := 0) dX2_readChildren_55 rfl rfl ?_
          refine wp_gfr (pc := 56) fk_X2_12 dX2_readChildren_56 rfl rfl (by decide) ?_
          refine wp_gfr (pc := 59) fk_X2_71 dX2_readChildren_59 rfl rfl (by decide) ?_
          refine wp_iload_n (pc := 62) (i := 1) dX2_readChildren_62 rfl rfl ?_
          refine wp_aload_n (pc := 63) (i := 0) dX2_readChildren_63 rfl rfl ?_
          refine wp_iconst (pc := 64) (v := nI 0) dX2_readChildren_64 rfl ?_
          refine wp_bipush (pc := 65) (v := nI 20) dX2_readChildren_65 rfl ?_
          refine wp_cV2i (pc := 67) lk_X2_54 dX2_readChildren_67 rfl rfl rfl (sp_numF (rx_q hX3 (by omega)) hB (by omega) w3 w0 (fun y => ?_))
          first | (with_reducible show WP _ _ _ _ _ _ (_ :: Value.int (nI _) :: _) _; refine wp_iastN (pc := 70) dX2_readChildren_70 rfl (by omega) ?_) | refine wp_iast (pc := 70) dX2_readChildren_70 rfl (by assumption) rfl ?_
          refine wp_aload_n (pc := 71) (i := 0) dX2_readChildren_71 rfl rfl ?_
          refine wp_bipush (pc := 72) (v := nI 59) dX2_readChildren_72 rfl ?_
          refine wp_cV1v (pc := 74) lk_X2_50 dX2_readChildren_74 rfl rfl rfl (sp_takeSignF (rx_q (rx_q hX3 (by omega)) (by omega)) hB (by omega) w3 w0 ?_)
          refine wp_aload_n (pc := 77) (i := 0) dX2_readChildren_77 rfl rfl ?_
          refine wp_gfr (pc := 78) fk_X2_12 dX2_readChildren_78 rfl rfl (by decide) ?_
          refine wp_gfr (pc := 81) fk_X2_74 dX2_readChildren_81 rfl rfl (by decide) ?_
          refine wp_iload_n (pc := 84) (i := 1) dX2_readChildren_84 rfl rfl ?_
          refine wp_iconst (pc := 85) (v := nI 0) dX2_readChildren_85 rfl ?_
          first | (with_reducible show WP _ _ _ _ _ _ (_ :: Value.int (nI _) :: _) _; refine wp_iastN (pc := 86) dX2_readChildren_86 rfl (by omega) ?_) | refine wp_iast (pc := 86) dX2_readChildren_86 rfl (by assumption) rfl ?_
          refine wp_aload_n (pc := 87) (i := 0) dX2_readChildren_87 rfl rfl ?_
          refine wp_gfr (pc := 88) fk_X2_12 dX2_readChildren_88 rfl rfl (by decide) ?_
          refine wp_iload_n (pc := 91) (i := 1) dX2_readChildren_91 rfl rfl ?_
          refine wp_iconst (pc := 92) (v := nI 1) dX2_readChildren_92 rfl ?_
          first | (with_reducible show WP _ _ _ _ _ _ (Value.int (nI _) :: Value.int (nI _) :: _) _; refine wp_iaddN (pc := 93) dX2_readChildren_93 ?_) | refine wp_iadd (pc := 93) dX2_readChildren_93 ?_
          refine wp_pf (pc := 94) fp_X2_35 dX2_readChildren_94 rfl rfl rfl rfl ?_
          first | refine wp_iincN (pc := 97) (i := 1) (n := 1) dX2_readChildren_97 rfl rfl (by decide) rfl ?_ | refine wp_iinc (pc := 97) (i := 1) dX2_readChildren_97 rfl rfl rfl (by decide) rfl ?_
          dsimp only [List.set_cons_zero, List.set_cons_succ]
          refine wp_goto (pc := 100) (tgt := 2) dX2_readChildren_100 (by decide) ?_
          rotate_left
          exact rc_flt (rx_q (rx_q (rx_q (rx_q hX3 (by omega)) (by omega)) (by omega)) (by omega)) hB l1 w3 w0 (by omega) (kF _ w _ (fun k => by rw [hS2 k, rChild, p2]) w0 w3 l1 (rx_q (rx_q (rx_q (rx_q hX3 (by omega)) (by omega)) (by omega)) (by omega)) ((((((hF1.e e2).e e3).hs (by omega)).hs (by omega)).hs (by omega)).hs (by omega)))
        first | (with_reducible show WP _ _ _ _ _ _ (_ :: Value.int (nI _) :: _) _; refine wp_iastN (pc := 48) dX2_readChildren_48 rfl (by omega) ?_) | refine wp_iast (pc := 48) dX2_readChildren_48 rfl (by assumption) rfl ?_
        refine wp_aload_n (pc := 49) (i := 0) dX2_readChildren_49 rfl rfl ?_
        refine wp_bipush (pc := 50) (v := nI 44) dX2_readChildren_50 rfl ?_
        refine wp_cV1v (pc := 52) lk_X2_50 dX2_readChildren_52 rfl rfl rfl (sp_sign (rx_q hX3 (by omega)) hB l2 (by omega) (fun p0' p3 l3 h4 hX4 e4 => ?_) (fun p0' p3 h4 hX4 e4 => ?_))
        rotate_left
        · refine wp_aload_n (pc := 55) (i := 0) dX2_readChildren_55 rfl rfl ?_
          refine wp_gfr (pc := 56) fk_X2_12 dX2_readChildren_56 rfl rfl (by decide) ?_
          refine wp_gfr (pc := 59) fk_X2_71 dX2_readChildren_59 rfl rfl (by decide) ?_
          refine wp_iload_n (pc := 62) (i := 1) dX2_readChildren_62 rfl rfl ?_
          refine wp_aload_n (pc := 63) (i := 0) dX2_readChildren_63 rfl rfl ?_
          refine wp_iconst (pc := 64) (v := nI 0) dX2_readChildren_64 rfl ?_
          refine wp_bipush (pc := 65) (v := nI 20) dX2_readChildren_65 rfl ?_
          refine wp_cV2i (pc := 67) lk_X2_54 dX2_readChildren_67 rfl rfl rfl (sp_numF hX4 hB l2 (by omega) (by omega) (fun y => ?_))
          first | (with_reducible show WP _ _ _ _ _ _ (_ :: Value.int (nI _) :: _) _; refine wp_iastN (pc := 70) dX2_readChildren_70 rfl (by omega) ?_) | refine wp_iast (pc := 70) dX2_readChildren_70 rfl (by assumption) rfl ?_
          refine wp_aload_n (pc := 71) (i := 0) dX2_readChildren_71 rfl rfl ?_
          refine wp_bipush (pc := 72) (v := nI 59) dX2_readChildren_72 rfl ?_
          refine wp_cV1v (pc := 74) lk_X2_50 dX2_readChildren_74 rfl rfl rfl (sp_takeSignF (rx_q hX4 (by omega)) hB l2 (by omega) (by omega) ?_)
          refine wp_aload_n (pc := 77) (i := 0) dX2_readChildren_77 rfl rfl ?_
          refine wp_gfr (pc := 78) fk_X2_12 dX2_readChildren_78 rfl rfl (by decide) ?_
          refine wp_gfr (pc := 81) fk_X2_74 dX2_readChildren_81 rfl rfl (by decide) ?_
          refine wp_iload_n (pc := 84) (i := 1) dX2_readChildren_84 rfl rfl ?_
          refine wp_iconst (pc := 85) (v := nI 0) dX2_readChildren_85 rfl ?_
          first | (with_reducible show WP _ _ _ _ _ _ (_ :: Value.int (nI _) :: _) _; refine wp_iastN (pc := 86) dX2_readChildren_86 rfl (by omega) ?_) | refine wp_iast (pc := 86) dX2_readChildren_86 rfl (by assumption) rfl ?_
          refine wp_aload_n (pc := 87) (i := 0) dX2_readChildren_87 rfl rfl ?_
          refine wp_gfr (pc := 88) fk_X2_12 dX2_readChildren_88 rfl rfl (by decide) ?_
          refine wp_iload_n (pc := 91) (i := 1) dX2_readChildren_91 rfl rfl ?_
          refine wp_iconst (pc := 92) (v := nI 1) dX2_readChildren_92 rfl ?_
          first | (with_reducible show WP _ _ _ _ _ _ (Value.int (nI _) :: Value.int (nI _) :: _) _; refine wp_iaddN (pc := 93) dX2_readChildren_93 ?_) | refine wp_iadd (pc := 93) dX2_readChildren_93 ?_
          refine wp_pf (pc := 94) fp_X2_35 dX2_readChildren_94 rfl rfl rfl rfl ?_
          first | refine wp_iincN (pc := 97) (i := 1) (n := 1) dX2_readChildren_97 rfl rfl (by decide) rfl ?_ | refine wp_iinc (pc := 97) (i := 1) dX2_readChildren_97 rfl rfl rfl (by decide) rfl ?_
          dsimp only [List.set_cons_zero, List.set_cons_succ]
          refine wp_goto (pc := 100) (tgt := 2) dX2_readChildren_100 (by decide) ?_
          rotate_left
          exact rc_flt (rx_q (rx_q (rx_q hX4 (by omega)) (by omega)) (by omega)) hB l2 (by omega) (by omega) (by omega) (kF _ 1 _ (fun k => by rw [hS2 k, rChild, p2, p3]) (by omega) (by omega) l2 (rx_q (rx_q (rx_q hX4 (by omega)) (by omega)) (by omega)) (((((((hF1.e e2).e e3).hs (by omega)).e e4).hs (by omega)).hs (by omega)).hs (by omega)))
        refine wp_aload_n (pc := 55) (i := 0) dX2_readChildren_55 rfl rfl ?_
        refine wp_gfr (pc := 56) fk_X2_12 dX2_readChildren_56 rfl rfl (by decide) ?_
        refine wp_gfr (pc := 59) fk_X2_71 dX2_readChildren_59 rfl rfl (by decide) ?_
        refine wp_iload_n (pc := 62) (i := 1) dX2_readChildren_62 rfl rfl ?_
        refine wp_aload_n (pc := 63) (i := 0) dX2_readChildren_63 rfl rfl ?_
        refine wp_iconst (pc := 64) (v := nI 0) dX2_readChildren_64 rfl ?_
        refine wp_bipush (pc := 65) (v := nI 20) dX2_readChildren_65 rfl ?_
        refine wp_cV2i (pc := 67) lk_X2_54 dX2_readChildren_67 rfl rfl rfl (sp_num hX4 hB l3 (by omega) (by omega) (fun n3 n4 p4 l4 h5 hX5 e5 => ?_) (fun w w0 w3 p4 x h5 hX5 e5 => ?_))
        rotate_left
        · first | (with_reducible show WP _ _ _ _ _ _ (_ :: Value.int (nI _) :: _) _; refine wp_iastN (pc := 70) dX2_readChildren_70 rfl (by omega) ?_) | refine wp_iast (pc := 70) dX2_readChildren_70 rfl (by assumption) rfl ?_
          refine wp_aload_n (pc := 71) (i := 0) dX2_readChildren_71 rfl rfl ?_
          refine wp_bipush (pc := 72) (v := nI 59) dX2_readChildren_72 rfl ?_
          refine wp_cV1v (pc := 74) lk_X2_50 dX2_readChildren_74 rfl rfl rfl (sp_takeSignF (rx_q hX5 (by omega)) hB l3 w3 w0 ?_)
          refine wp_aload_n (pc := 77) (i := 0) dX2_readChildren_77 rfl rfl ?_
          refine wp_gfr (pc := 78) fk_X2_12 dX2_readChildren_78 rfl rfl (by decide) ?_
          refine wp_gfr (pc := 81) fk_X2_74 dX2_readChildren_81 rfl rfl (by decide) ?_
          refine wp_iload_n (pc := 84) (i := 1) dX2_readChildren_84 rfl rfl ?_
          refine wp_iconst (pc := 85) (v := nI 0) dX2_readChildren_85 rfl ?_
          first | (with_reducible show WP _ _ _ _ _ _ (_ :: Value.int (nI _) :: _) _; refine wp_iastN (pc := 86) dX2_readChildren_86 rfl (by omega) ?_) | refine wp_iast (pc := 86) dX2_readChildren_86 rfl (by assumption) rfl ?_
          refine wp_aload_n (pc := 87) (i := 0) dX2_readChildren_87 rfl rfl ?_
          refine wp_gfr (pc := 88) fk_X2_12 dX2_readChildren_88 rfl rfl (by decide) ?_
          refine wp_iload_n (pc := 91) (i := 1) dX2_readChildren_91 rfl rfl ?_
          refine wp_iconst (pc := 92) (v := nI 1) dX2_readChildren_92 rfl ?_
          first | (with_reducible show WP _ _ _ _ _ _ (Value.int (nI _) :: Value.int (nI _) :: _) _; refine wp_iaddN (pc := 93) dX2_readChildren_93 ?_) | refine wp_iadd (pc := 93) dX2_readChildren_93 ?_
          refine wp_pf (pc := 94) fp_X2_35 dX2_readChildren_94 rfl rfl rfl rfl ?_
          first | refine wp_iincN (pc := 97) (i := 1) (n := 1) dX2_readChildren_97 rfl rfl (by decide) rfl ?_ | refine wp_iinc (pc := 97) (i := 1) dX2_readChildren_97 rfl rfl rfl (by decide) rfl ?_
          dsimp only [List.set_cons_zero, List.set_cons_succ]
          refine wp_goto (pc := 100) (tgt := 2) dX2_readChildren_100 (by decide) ?_
          rotate_left
          exact rc_flt (rx_q (rx_q (rx_q hX5 (by omega)) (by omega)) (by omega)) hB l3 w3 w0 (by omega) (kF _ w _ (fun k => by rw [hS2 k, rChild, p2, p3, p4]) w0 w3 l3 (rx_q (rx_q (rx_q hX5 (by omega)) (by omega)) (by omega)) ((((((((hF1.e e2).e e3).hs (by omega)).e e4).e e5).hs (by omega)).hs (by omega)).hs (by omega)))
        first | (with_reducible show WP _ _ _ _ _ _ (_ :: Value.int (nI _) :: _) _; refine wp_iastN (pc := 70) dX2_readChildren_70 rfl (by omega) ?_) | refine wp_iast (pc := 70) dX2_readChildren_70 rfl (by assumption) rfl ?_
        refine wp_aload_n (pc := 71) (i := 0) dX2_readChildren_71 rfl rfl ?_
        refine wp_bipush (pc := 72) (v := nI 59) dX2_readChildren_72 rfl ?_
        refine wp_cV1v (pc := 74) lk_X2_50 dX2_readChildren_74 rfl rfl rfl (sp_sign (rx_q hX5 (by omega)) hB l4 (by omega) (fun p0' p5 l5 h6 hX6 e6 => ?_) (fun p0' p5 h6 hX6 e6 => ?_))
        rotate_left
        · refine wp_aload_n (pc := 77) (i := 0) dX2_readChildren_77 rfl rfl ?_
          refine wp_gfr (pc := 78) fk_X2_12 dX2_readChildren_78 rfl rfl (by decide) ?_
          refine wp_gfr (pc := 81) fk_X2_74 dX2_readChildren_81 rfl rfl (by decide) ?_
          refine wp_iload_n (pc := 84) (i := 1) dX2_readChildren_84 rfl rfl ?_
          refine wp_iconst (pc := 85) (v := nI 0) dX2_readChildren_85 rfl ?_
          first | (with_reducible show WP _ _ _ _ _ _ (_ :: Value.int (nI _) :: _) _; refine wp_iastN (pc := 86) dX2_readChildren_86 rfl (by omega) ?_) | refine wp_iast (pc := 86) dX2_readChildren_86 rfl (by assumption) rfl ?_
          refine wp_aload_n (pc := 87) (i := 0) dX2_readChildren_87 rfl rfl ?_
          refine wp_gfr (pc := 88) fk_X2_12 dX2_readChildren_88 rfl rfl (by decide) ?_
          refine wp_iload_n (pc := 91) (i := 1) dX2_readChildren_91 rfl rfl ?_
          refine wp_iconst (pc := 92) (v := nI 1) dX2_readChildren_92 rfl ?_
          first | (with_reducible show WP _ _ _ _ _ _ (Value.int (nI _) :: Value.int (nI _) :: _) _; refine wp_iaddN (pc := 93) dX2_readChildren_93 ?_) | refine wp_iadd (pc := 93) dX2_readChildren_93 ?_
          refine wp_pf (pc := 94) fp_X2_35 dX2_readChildren_94 rfl rfl rfl rfl ?_
          first | refine wp_iincN (pc := 97) (i := 1) (n := 1) dX2_readChildren_97 rfl rfl (by decide) rfl ?_ | refine wp_iinc (pc := 97) (i := 1) dX2_readChildren_97 rfl rfl rfl (by decide) rfl ?_
          dsimp only [List.set_cons_zero, List.set_cons_succ]
          refine wp_goto (pc := 100) (tgt := 2) dX2_readChildren_100 (by decide) ?_
          rotate_left
          exact rc_flt (rx_q (rx_q hX6 (by omega)) (by omega)) hB l4 (by omega) (by omega) (by omega) (kF _ 1 _ (fun k => by rw [hS2 k, rChild, p2, p3, p4, p5]) (by omega) (by omega) l4 (rx_q (rx_q hX6 (by omega)) (by omega)) (((((((((hF1.e e2).e e3).hs (by omega)).e e4).e e5).hs (by omega)).e e6).hs (by omega)).hs (by omega)))
        refine wp_aload_n (pc := 77) (i := 0) dX2_readChildren_77 rfl rfl ?_
        refine wp_gfr (pc := 78) fk_X2_12 dX2_readChildren_78 rfl rfl (by decide) ?_
        refine wp_gfr (pc := 81) fk_X2_74 dX2_readChildren_81 rfl rfl (by decide) ?_
        refine wp_iload_n (pc := 84) (i := 1) dX2_readChildren_84 rfl rfl ?_
        refine wp_iconst (pc := 85) (v := nI 0) dX2_readChildren_85 rfl ?_
        first | (with_reducible show WP _ _ _ _ _ _ (_ :: Value.int (nI _) :: _) _; refine wp_iastN (pc := 86) dX2_readChildren_86 rfl (by omega) ?_) | refine wp_iast (pc := 86) dX2_readChildren_86 rfl (by assumption) rfl ?_
        refine wp_aload_n (pc := 87) (i := 0) dX2_readChildren_87 rfl rfl ?_
        refine wp_gfr (pc := 88) fk_X2_12 dX2_readChildren_88 rfl rfl (by decide) ?_
        refine wp_iload_n (pc := 91) (i := 1) dX2_readChildren_91 rfl rfl ?_
        refine wp_iconst (pc := 92) (v := nI 1) dX2_readChildren_92 rfl ?_
        first | (with_reducible show WP _ _ _ _ _ _ (Value.int (nI _) :: Value.int (nI _) :: _) _; refine wp_iaddN (pc := 93) dX2_readChildren_93 ?_) | refine wp_iadd (pc := 93) dX2_readChildren_93 ?_
        refine wp_pf (pc := 94) fp_X2_35 dX2_readChildren_94 rfl rfl rfl rfl ?_
        first | refine wp_iincN (pc := 97) (i := 1) (n := 1) dX2_readChildren_97 rfl rfl (by decide) rfl ?_ | refine wp_iinc (pc := 97) (i := 1) dX2_readChildren_97 rfl rfl rfl (by decide) rfl ?_
        dsimp only [List.set_cons_zero, List.set_cons_succ]
        refine wp_goto (pc := 100) (tgt := 2) dX2_readChildren_100 (by decide) ?_
        rotate_left
        have F6 : ∀ q, q ≠ 13 → q ≠ 16 → q ≠ 17 → h6 q = h1 q := fun q q1 q2 q3 => by rw [e6 q q1, hs_ne q3, e5 q q1, e4 q q1, hs_ne q2, e3 q q1, e2 q q1]
        have A6 : h6 16 = upd (h1 16) n (nI (nv B (a' + 1))) := by rw [e6 16 (by decide), hs_ne (by decide), e5 16 (by decide), e4 16 (by decide), hs_at, e3 16 (by decide), e2 16 (by decide)]
        have B6 : h6 17 = upd (h1 17) n (nI (nv B (a' + 1 + nz B (a' + 1) + 1))) := by rw [e6 17 (by decide), hs_at, e5 17 (by decide), e4 17 (by decide), hs_ne (by decide), e3 17 (by decide), e2 17 (by decide)]
        subst hV0
        have wch := TW.ch (h' := hs (hs h6 18 (V 0) (nI 0)) 15 2 (nI (V 0 + 1))) (v := nv B (a' + 1)) (s := nv B (a' + 1 + nz B (a' + 1) + 1)) hW1 hV0' hV1 (hV.2.2.2.2.2.2.2.1 _ hV0') (hs_same _ _ _ _) (fun i hi => by rw [hs_ix hi, hs_ne (by decide), F6 15 (by decide) (by decide) (by decide)]) (by rw [hs_ne (by decide), hs_ne (by decide), A6]; exact if_pos rfl) (by rw [hs_ne (by decide), hs_ne (by decide), B6]; exact if_pos rfl) (by rw [hs_ne (by decide)]; exact hs_same _ _ _ _) (fun q i q1 q2 hi => by
          rw [hs_ne (by omega)]
          have : q = 16 ∨ q = 17 ∨ q = 18 := by omega
          rcases this with rfl | rfl | rfl
          · rw [hs_ne (by decide), A6]; exact if_neg hi
          · rw [hs_ne (by decide), B6]; exact if_neg hi
          · rw [hs_ix hi, F6 18 (by decide) (by decide) (by decide)])
        obtain ⟨q0, -, -, q3⟩ := chT_at V (V 0) (nv B (a' + 1)) (nv B (a' + 1 + nz B (a' + 1) + 1)) hV0'
        exact ih (V 0 + 1) _ _ _ (by omega) q0 (by rw [q3 1 (by omega) (by omega) (by omega)]; exact hV1) (hV.ch hV1 hV0' n2 n4) l5 (rx_q (rx_q hX6 (by omega)) (by omega)) wch (((((((((hF1.e e2).e e3).hs (by omega)).e e4).e e5).hs (by omega)).e e6).hs (by omega)).hs (by omega)) (fun k => by rw [hS2 k, rChild, p2, p3, p4, p5, if_neg (by omega)])
      have fin : ¬ n = 0 → ¬ B[a']? = some 99 → WP G (d + 2) mX2_readChildren (pV K) 103 [some (.ref 13), some (.int (nI n))] [] h1 := by
        intro q0 q
        refine wp_aload_n (pc := 103) (i := 0) dX2_readChildren_103 rfl rfl ?_
        refine wp_gfr (pc := 104) fk_X2_12 dX2_readChildren_104 rfl rfl (by decide) ?_
        refine wp_gfv (pc := 107) fk_X2_35 dX2_readChildren_107 rfl rfl (by first | with_reducible assumption | with_reducible exact hs_same _ _ _ _ | rfl) ?_
        refine wp_iconst (pc := 110) (v := nI 5) dX2_readChildren_110 rfl ?_
        first | (with_reducible show WP _ _ _ _ _ _ (Value.int (nI _) :: Value.int (nI _) :: _) _; refine wp_icmp_neN (pc := 111) (tgt := 128) dX2_readChildren_111 (by decide) (by omega) (by omega) (fun c111 => ?_) (fun c111 => ?_)) | refine wp_icmp_ne (pc := 111) (tgt := 128) dX2_readChildren_111 (by decide) (fun c111 => ?_) (fun c111 => ?_)
        refine wp_vret (pc := 128) dX2_readChildren_128 rfl ?_
        rotate_left
        rotate_left
        · exact kO h1 V a' (fun k => by rw [hS k, if_neg (fun y => q0 y.1), rChs, if_neg q]) hV (by omega) hV1 ha' hX1 hW1 hF1
        · exact absurd c111 (by omega)
      refine wp_iload_n (pc := 2) (i := 1) dX2_readChildren_2 rfl rfl ?_
      refine wp_iconst (pc := 3) (v := nI 5) dX2_readChildren_3 rfl ?_
      first | (with_reducible show WP _ _ _ _ _ _ (Value.int (nI _) :: Value.int (nI _) :: _) _; refine wp_icmp_geN (pc := 4) (tgt := 103) dX2_readChildren_4 (by decide) (by omega) (by omega) (fun c4 => ?_) (fun c4 => ?_)) | refine wp_icmp_ge (pc := 4) (tgt := 103) dX2_readChildren_4 (by decide) (fun c4 => ?_) (fun c4 => ?_)
      rotate_left
      refine wp_aload_n (pc := 7) (i := 0) dX2_readChildren_7 rfl rfl ?_
      refine wp_gfv (pc := 8) fk_X2_29 dX2_readChildren_8 rfl rfl (by first | with_reducible assumption | with_reducible exact hs_same _ _ _ _ | rfl) ?_
      first | (with_reducible show WP _ _ _ _ _ _ (Value.int (bI _) :: _) _; refine wp_if_neB (pc := 11) (tgt := 103) dX2_readChildren_11 (by decide) (fun c11 => ?_) (fun c11 => ?_)) | (with_reducible show WP _ _ _ _ _ _ (Value.int (nI _) :: _) _; refine wp_if_neN (pc := 11) (tgt := 103) dX2_readChildren_11 (by decide) (by omega) (fun c11 => ?_) (fun c11 => ?_)) | refine wp_if_ne (pc := 11) (tgt := 103) dX2_readChildren_11 (by decide) (fun c11 => ?_) (fun c11 => ?_)
      rotate_left
      refine wp_iload_n (pc := 14) (i := 1) dX2_readChildren_14 rfl rfl ?_
      first | (with_reducible show WP _ _ _ _ _ _ (Value.int (bI _) :: _) _; refine wp_if_eqB (pc := 15) (tgt := 27) dX2_readChildren_15 (by decide) (fun c15 => ?_) (fun c15 => ?_)) | (with_reducible show WP _ _ _ _ _ _ (Value.int (nI _) :: _) _; refine wp_if_eqN (pc := 15) (tgt := 27) dX2_readChildren_15 (by decide) (by omega) (fun c15 => ?_) (fun c15 => ?_)) | refine wp_if_eq (pc := 15) (tgt := 27) dX2_readChildren_15 (by decide) (fun c15 => ?_) (fun c15 => ?_)
      rotate_left
      refine wp_aload_n (pc := 18) (i := 0) dX2_readChildren_18 rfl rfl ?_
      refine wp_cV0i (pc := 19) lk_X2_64 dX2_readChildren_19 rfl rfl rfl ?_
      rotate_left
      · exact absurd hnm (by omega)
      · exact absurd rfl c11
      · exact body (Or.inr c15)
      refine sp_nextByte hX1 hB (by omega) (fun b hb hb2 => ?_) (fun hb => ?_)
      · refine wp_bipush (pc := 22) (v := nI 99) dX2_readChildren_22 rfl ?_
        first | (with_reducible show WP _ _ _ _ _ _ (Value.int (nI _) :: Value.int (nI _) :: _) _; refine wp_icmp_neN (pc := 24) (tgt := 103) dX2_readChildren_24 (by decide) (by omega) (by omega) (fun c24 => ?_) (fun c24 => ?_)) | refine wp_icmp_ne (pc := 24) (tgt := 103) dX2_readChildren_24 (by decide) (fun c24 => ?_) (fun c24 => ?_)
        rotate_left
        rotate_left
        · exact fin c15 (by rw [hb]; exact fun q => c24 (Option.some.inj q))
        · exact body (Or.inl (by rw [hb, c24]))
      · refine wp_bipush (pc := 22) (v := nI 99) dX2_readChildren_22 rfl ?_
        first | (with_reducible show WP _ _ _ _ _ _ (Value.int (nI _) :: Value.int (nI _) :: _) _; refine wp_icmp_neN (pc := 24) (tgt := 103) dX2_readChildren_24 (by decide) (by omega) (by omega) (fun c24 => ?_) (fun c24 => ?_)) | refine wp_icmp_ne (pc := 24) (tgt := 103) dX2_readChildren_24 (by decide) (fun c24 => ?_) (fun c24 => ?_)
        rotate_left
        rotate_left
        · exact fin c15 (by rw [hb]; simp)
        · exact absurd c24 (kM1_ne (by decide))
  refine wp_iconst (pc := 0) (v := nI 0) dX2_readChildren_0 rfl ?_
  refine wp_istore_n (pc := 1) (i := 1) dX2_readChildren_1 rfl rfl (by decide) rfl ?_
  dsimp only [List.set_cons_zero, List.set_cons_succ]
  rotate_left
  refine loop 5 0 T a h (by omega) hT0 hT1 hP ha hX hW (FD.rf h) (fun k => ?_)
  by_cases q : B[a]? = some 99
  · rw [if_pos q, if_neg (fun y => y.2 q)]
  · rw [if_neg q, if_pos ⟨rfl, q⟩]
end DREAD4
