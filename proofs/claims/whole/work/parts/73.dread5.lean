section DREAD5
variable {G : Gt} {d : Nat} {h : Hp} {B : List Nat} {f a : Nat} {T : Tn}
theorem rg_flt {c : Nat} {h1 : Hp} {K : Hp → Prop} (hX : RX h1 B f a) (hB : OB B) (ha : a ≤ B.length) (hf : f ≤ 3) (hf0 : ¬ f = 0) (hc : c ≤ 6) (k : K h1) : WP G (d + 1) mX2_readGrans (pV K) 2 [some (.ref 13), some (.int (nI c))] [] h1 := by
  obtain ⟨⟨b1, b2⟩, x1, x2, x3⟩ := id hX
  have l := hB.1
  have e181 : WP G (d + 1) mX2_readGrans (pV K) 181 [some (.ref 13), some (.int (nI c))] [] h1 := by
    refine wp_vret (pc := 181) dX2_readGrans_181 rfl ?_
    rotate_left
    exact k
  have e151 : WP G (d + 1) mX2_readGrans (pV K) 151 [some (.ref 13), some (.int (nI c))] [] h1 := by
    have all : ∀ x, x ≤ 5 → WP G (d + 1) mX2_readGrans (pV K) 170 [some (.ref 13), some (.int (nI c))] [.int (nI x), .ref 13] h1 := by
      intro x hx
      first | (with_reducible show WP _ _ _ _ _ _ (Value.int (bI _) :: _) _; refine wp_if_neB (pc := 170) (tgt := 177) dX2_readGrans_170 (by decide) (fun c170 => ?_) (fun c170 => ?_)) | (with_reducible show WP _ _ _ _ _ _ (Value.int (nI _) :: _) _; refine wp_if_neN (pc := 170) (tgt := 177) dX2_readGrans_170 (by decide) (by omega) (fun c170 => ?_) (fun c170 => ?_)) | refine wp_if_ne (pc := 170) (tgt := 177) dX2_readGrans_170 (by decide) (fun c170 => ?_) (fun c170 => ?_)
      refine wp_iconst (pc := 177) (v := nI 3) dX2_readGrans_177 rfl ?_
      refine wp_cV1v (pc := 178) lk_X2_77 dX2_readGrans_178 rfl rfl rfl (sp_fail hX hf (by omega) (fun _ => ?_) (fun z => absurd z hf0))
      rotate_left
      refine wp_iconst (pc := 173) (v := nI 1) dX2_readGrans_173 rfl ?_
      refine wp_goto (pc := 174) (tgt := 178) dX2_readGrans_174 (by decide) ?_
      refine wp_cV1v (pc := 178) lk_X2_77 dX2_readGrans_178 rfl rfl rfl (sp_fail hX hf (by omega) (fun _ => ?_) (fun z => absurd z hf0))
      rotate_left
      · exact e181
      · exact e181
    by_cases z : a < B.length
    · refine wp_aload_n (pc := 151) (i := 0) dX2_readGrans_151 rfl rfl ?_
      refine wp_gfv (pc := 152) fk_X2_26 dX2_readGrans_152 rfl rfl (by first | with_reducible assumption | with_reducible exact hs_same _ _ _ _ | rfl) ?_
      refine wp_aload_n (pc := 155) (i := 0) dX2_readGrans_155 rfl rfl ?_
      refine wp_gfv (pc := 156) fk_X2_22 dX2_readGrans_156 rfl rfl (by first | with_reducible assumption | with_reducible exact hs_same _ _ _ _ | rfl) ?_
      first | (with_reducible show WP _ _ _ _ _ _ (Value.int (nI _) :: Value.int (nI _) :: _) _; refine wp_icmp_geN (pc := 159) (tgt := 181) dX2_readGrans_159 (by decide) (by omega) (by omega) (fun c159 => ?_) (fun c159 => ?_)) | refine wp_icmp_ge (pc := 159) (tgt := 181) dX2_readGrans_159 (by decide) (fun c159 => ?_) (fun c159 => ?_)
      rotate_left
      refine wp_aload_n (pc := 162) (i := 0) dX2_readGrans_162 rfl rfl ?_
      refine wp_aload_n (pc := 163) (i := 0) dX2_readGrans_163 rfl rfl ?_
      refine wp_cV0i (pc := 164) lk_X2_64 dX2_readGrans_164 rfl rfl rfl ?_
      rotate_left
      · exact e181
      refine sp_nextByte hX hB (by omega) (fun b _ hb2 => ?_) (fun _ => ?_)
      · refine wp_cS1i (pc := 167) lk_X2_101 dX2_readGrans_167 rfl (sp_sortOf hb2 ?_)
        rotate_left
        exact all _ (kol_le b)
      · refine wp_cS1i (pc := 167) lk_X2_101 dX2_readGrans_167 rfl (sp_sortOfM ?_)
        rotate_left
        exact all 0 (by omega)
    · refine wp_aload_n (pc := 151) (i := 0) dX2_readGrans_151 rfl rfl ?_
      refine wp_gfv (pc := 152) fk_X2_26 dX2_readGrans_152 rfl rfl (by first | with_reducible assumption | with_reducible exact hs_same _ _ _ _ | rfl) ?_
      refine wp_aload_n (pc := 155) (i := 0) dX2_readGrans_155 rfl rfl ?_
      refine wp_gfv (pc := 156) fk_X2_22 dX2_readGrans_156 rfl rfl (by first | with_reducible assumption | with_reducible exact hs_same _ _ _ _ | rfl) ?_
      first | (with_reducible show WP _ _ _ _ _ _ (Value.int (nI _) :: Value.int (nI _) :: _) _; refine wp_icmp_geN (pc := 159) (tgt := 181) dX2_readGrans_159 (by decide) (by omega) (by omega) (fun c159 => ?_) (fun c159 => ?_)) | refine wp_icmp_ge (pc := 159) (tgt := 181) dX2_readGrans_159 (by decide) (fun c159 => ?_) (fun c159 => ?_)
      rotate_left
      rotate_left
      · exact e181
      · exact absurd c159 (by omega)
  refine wp_iload_n (pc := 2) (i := 1) dX2_readGrans_2 rfl rfl ?_
  refine wp_bipush (pc := 3) (v := nI 6) dX2_readGrans_3 rfl ?_
  first | (with_reducible show WP _ _ _ _ _ _ (Value.int (nI _) :: Value.int (nI _) :: _) _; refine wp_icmp_geN (pc := 5) (tgt := 151) dX2_readGrans_5 (by decide) (by omega) (by omega) (fun c5 => ?_) (fun c5 => ?_)) | refine wp_icmp_ge (pc := 5) (tgt := 151) dX2_readGrans_5 (by decide) (fun c5 => ?_) (fun c5 => ?_)
  rotate_left
  refine wp_aload_n (pc := 8) (i := 0) dX2_readGrans_8 rfl rfl ?_
  refine wp_gfv (pc := 9) fk_X2_29 dX2_readGrans_9 rfl rfl (by first | with_reducible assumption | with_reducible exact hs_same _ _ _ _ | rfl) ?_
  first | (with_reducible show WP _ _ _ _ _ _ (Value.int (bI _) :: _) _; refine wp_if_neB (pc := 12) (tgt := 151) dX2_readGrans_12 (by decide) (fun c12 => ?_) (fun c12 => ?_)) | (with_reducible show WP _ _ _ _ _ _ (Value.int (nI _) :: _) _; refine wp_if_neN (pc := 12) (tgt := 151) dX2_readGrans_12 (by decide) (by omega) (fun c12 => ?_) (fun c12 => ?_)) | refine wp_if_ne (pc := 12) (tgt := 151) dX2_readGrans_12 (by decide) (fun c12 => ?_) (fun c12 => ?_)
  rotate_left
  rotate_left
  · exact e151
  · exact e151
  · exact absurd c12 hf0
theorem sp_readGransF {K : Hp → Prop} (hX : RX h B f a) (hB : OB B) (ha : a ≤ B.length) (hf : f ≤ 3) (hf0 : ¬ f = 0) (k : K h) : Call G (d + 1) mX2_readGrans [.ref 13] h (pV K) := by
  refine Call.of (M := mX2_readGrans) (n := 1) (by decide +kernel) rfl ?_
  show WP _ _ _ _ 0 [some (.ref 13), none] [] _
  refine wp_iconst (pc := 0) (v := nI 0) dX2_readGrans_0 rfl ?_
  refine wp_istore_n (pc := 1) (i := 1) dX2_readGrans_1 rfl rfl (by decide) rfl ?_
  dsimp only [List.set_cons_zero, List.set_cons_succ]
  rotate_left
  exact rg_flt hX hB ha hf hf0 (by omega) k
theorem ko_some {b : Nat} (h : B[a]? = some b) : ko B a = kol b := by unfold ko; rw [h]
theorem ko_none (h : B[a]? = none) : ko B a = 0 := by unfold ko; rw [h]
theorem rEnd_no (h : a < B.length) : rEnd B T a = rno 1 a := if_neg (by omega)
theorem rEnd_ok (h : a = B.length) : rEnd B T a = rok T a := if_pos h
theorem sp_readGrans {K : Hp → Prop} (hX : RX h B 0 a) (hB : OB B) (ha : a ≤ B.length) (hW : TW h 15 T) (hP : PT T) (hT0 : 0 < T 0) (hT1 : T 1 = 0)
    (kO : ∀ h' T' a', rGrs1 B T a = rok T' a' → PT T' → 0 < T' 0 → 0 < T' 1 → a' ≤ B.length → RX h' B 0 a' → TW h' 15 T' → FD h h' → K h')
    (kF : ∀ h' w a', rGrs1 B T a = rno w a' → ¬ w = 0 → w ≤ 3 → a' ≤ B.length → RX h' B w a' → FD h h' → K h') : Call G (d + 2) mX2_readGrans [.ref 13] h (pV K) := by
  refine Call.of (M := mX2_readGrans) (n := 1) (by decide +kernel) rfl ?_
  show WP _ _ _ _ 0 [some (.ref 13), none] [] _
  have l := hB.1
  have loop : ∀ m n V a' h1, n + m = 6 → V 1 = n → 0 < V 0 → PT V → a' ≤ B.length → RX h1 B 0 a' → TW h1 15 V → FD h h1 → rGrs1 B T a = (if n = 0 ∧ ¬ 0 < ko B a' then rno 1 a' else rGrs B m V a') → WP G (d + 2) mX2_readGrans (pV K) 2 [some (.ref 13), some (.int (nI n))] [] h1 := by
    intro m
    induction m with
    | zero =>
      intro n V a' h1 hnm hV1 hV0 hV ha' hX1 hW1 hF1 hS
      obtain ⟨⟨b1, b2⟩, x1, x2, x3⟩ := id hX1
      have hS : rGrs1 B T a = (if 0 < ko B a' then rno 3 a' else rEnd B V a') := by rw [hS, if_neg (by omega)]; rfl
      have at151 : WP G (d + 2) mX2_readGrans (pV K) 151 [some (.ref 13), some (.int (nI n))] [] h1 := by
        by_cases z : a' < B.length
        · have q : B[a']? = some B[a'] := List.getElem?_eq_getElem z
          have kl := kol_le B[a']
          refine wp_aload_n (pc := 151) (i := 0) dX2_readGrans_151 rfl rfl ?_
          refine wp_gfv (pc := 152) fk_X2_26 dX2_readGrans_152 rfl rfl (by first | with_reducible assumption | with_reducible exact hs_same _ _ _ _ | rfl) ?_
          refine wp_aload_n (pc := 155) (i := 0) dX2_readGrans_155 rfl rfl ?_
          refine wp_gfv (pc := 156) fk_X2_22 dX2_readGrans_156 rfl rfl (by first | with_reducible assumption | with_reducible exact hs_same _ _ _ _ | rfl) ?_
          first | (with_reducible show WP _ _ _ _ _ _ (Value.int (nI _) :: Value.int (nI _) :: _) _; refine wp_icmp_geN (pc := 159) (tgt := 181) dX2_readGrans_159 (by decide) (by omega) (by omega) (fun c159 => ?_) (fun c159 => ?_)) | refine wp_icmp_ge (pc := 159) (tgt := 181) dX2_readGrans_159 (by decide) (fun c159 => ?_) (fun c159 => ?_)
          rotate_left
          refine wp_aload_n (pc := 162) (i := 0) dX2_readGrans_162 rfl rfl ?_
          refine wp_aload_n (pc := 163) (i := 0) dX2_readGrans_163 rfl rfl ?_
          refine wp_cV0i (pc := 164) lk_X2_64 dX2_readGrans_164 rfl rfl rfl ?_
          rotate_left
          · exact absurd c159 (by omega)
          refine sp_nextByte hX1 hB (by omega) (fun b hb hb2 => ?_) (fun hb => ?_)
          · have kk := ko_some hb
            have kl := kol_le b
            refine wp_cS1i (pc := 167) lk_X2_101 dX2_readGrans_167 rfl (sp_sortOf hb2 ?_)
            first | (with_reducible show WP _ _ _ _ _ _ (Value.int (bI _) :: _) _; refine wp_if_neB (pc := 170) (tgt := 177) dX2_readGrans_170 (by decide) (fun c170 => ?_) (fun c170 => ?_)) | (with_reducible show WP _ _ _ _ _ _ (Value.int (nI _) :: _) _; refine wp_if_neN (pc := 170) (tgt := 177) dX2_readGrans_170 (by decide) (by omega) (fun c170 => ?_) (fun c170 => ?_)) | refine wp_if_ne (pc := 170) (tgt := 177) dX2_readGrans_170 (by decide) (fun c170 => ?_) (fun c170 => ?_)
            refine wp_iconst (pc := 177) (v := nI 3) dX2_readGrans_177 rfl ?_
            rotate_left
            refine wp_iconst (pc := 173) (v := nI 1) dX2_readGrans_173 rfl ?_
            refine wp_goto (pc := 174) (tgt := 178) dX2_readGrans_174 (by decide) ?_
            rotate_left
            · refine wp_cV1v (pc := 178) lk_X2_77 dX2_readGrans_178 rfl rfl rfl (sp_fail hX1 (by omega) (by omega) (fun z => absurd rfl z) (fun _ h2 hX2 e2 => ?_))
              refine wp_vret (pc := 181) dX2_readGrans_181 rfl ?_
              rotate_left
              exact kF h2 3 a' (by rw [hS, if_pos (by omega)]) (by omega) (by omega) ha' hX2 (hF1.e e2)
            · refine wp_cV1v (pc := 178) lk_X2_77 dX2_readGrans_178 rfl rfl rfl (sp_fail hX1 (by omega) (by omega) (fun z => absurd rfl z) (fun _ h2 hX2 e2 => ?_))
              refine wp_vret (pc := 181) dX2_readGrans_181 rfl ?_
              rotate_left
              exact kF h2 1 a' (by rw [hS, if_neg (by omega), rEnd_no z]) (by omega) (by omega) ha' hX2 (hF1.e e2)
          · rw [q] at hb; cases hb
        · refine wp_aload_n (pc := 151) (i := 0) dX2_readGrans_151 rfl rfl ?_
          refine wp_gfv (pc := 152) fk_X2_26 dX2_readGrans_152 rfl rfl (by first | with_reducible assumption | with_reducible exact hs_same _ _ _ _ | rfl) ?_
          refine wp_aload_n (pc := 155) (i := 0) dX2_readGrans_155 rfl rfl ?_
          refine wp_gfv (pc := 156) fk_X2_22 dX2_readGrans_156 rfl rfl (by first | with_reducible assumption | with_reducible exact hs_same _ _ _ _ | rfl) ?_
          first | (with_reducible show WP _ _ _ _ _ _ (Value.int (nI _) :: Value.int (nI _) :: _) _; refine wp_icmp_geN (pc := 159) (tgt := 181) dX2_readGrans_159 (by decide) (by omega) (by omega) (fun c159 => ?_) (fun c159 => ?_)) | refine wp_icmp_ge (pc := 159) (tgt := 181) dX2_readGrans_159 (by decide) (fun c159 => ?_) (fun c159 => ?_)
          refine wp_vret (pc := 181) dX2_readGrans_181 rfl ?_
          rotate_left
          rotate_left
          · exact kO h1 V a' (by rw [hS, ko_none (List.getElem?_eq_none (by omega)), if_neg (by omega), rEnd_ok (by omega)]) hV hV0 (by omega) ha' hX1 hW1 hF1
          · exact absurd c159 (by omega)
      refine wp_iload_n (pc := 2) (i := 1) dX2_readGrans_2 rfl rfl ?_
      refine wp_bipush (pc := 3) (v := nI 6) dX2_readGrans_3 rfl ?_
      first | (with_reducible show WP _ _ _ _ _ _ (Value.int (nI _) :: Value.int (nI _) :: _) _; refine wp_icmp_geN (pc := 5) (tgt := 151) dX2_readGrans_5 (by decide) (by omega) (by omega) (fun c5 => ?_) (fun c5 => ?_)) | refine wp_icmp_ge (pc := 5) (tgt := 151) dX2_readGrans_5 (by decide) (fun c5 => ?_) (fun c5 => ?_)
      rotate_left
      rotate_left
      · exact at151
      · exact absurd hnm (by omega)
    | succ m ih =>
      intro n V a' h1 hnm hV1 hV0 hV ha' hX1 hW1 hF1 hS
      obtain ⟨⟨b1, b2⟩, x1, x2, x3⟩ := id hX1
      have v5 := hV.1
      have kl := ko_le B a'
      have body : (a' < B.length ∨ n = 0) → WP G (d + 2) mX2_readGrans (pV K) 30 [some (.ref 13), some (.int (nI n))] [] h1 := by
        intro hcase
        have hn6 : n < 6 := by omega
        refine wp_aload_n (pc := 30) (i := 0) dX2_readGrans_30 rfl rfl ?_
        refine wp_gfr (pc := 31) fk_X2_12 dX2_readGrans_31 rfl rfl (by decide) ?_
        refine wp_gfr (pc := 34) fk_X2_80 dX2_readGrans_34 rfl rfl (by decide) ?_
        refine wp_iload_n (pc := 37) (i := 1) dX2_readGrans_37 rfl rfl ?_
        refine wp_aload_n (pc := 38) (i := 0) dX2_readGrans_38 rfl rfl ?_
        refine wp_cV0i (pc := 39) lk_X2_83 dX2_readGrans_39 rfl rfl rfl (sp_takeSort hX1 hB ha' (by omega) (fun z => absurd rfl z) (fun _ p0 l1 h2 hX2 e2 => ?_) (fun _ p0 h2 hX2 e2 => ?_))
        rotate_left
        · first | (with_reducible show WP _ _ _ _ _ _ (_ :: Value.int (nI _) :: _) _; refine wp_iastN (pc := 42) dX2_readGrans_42 rfl (by omega) ?_) | refine wp_iast (pc := 42) dX2_readGrans_42 rfl (by assumption) rfl ?_
          refine wp_aload_n (pc := 43) (i := 0) dX2_readGrans_43 rfl rfl ?_
          refine wp_gfr (pc := 44) fk_X2_12 dX2_readGrans_44 rfl rfl (by decide) ?_
          refine wp_gfr (pc := 47) fk_X2_86 dX2_readGrans_47 rfl rfl (by decide) ?_
          refine wp_iload_n (pc := 50) (i := 1) dX2_readGrans_50 rfl rfl ?_
          refine wp_aload_n (pc := 51) (i := 0) dX2_readGrans_51 rfl rfl ?_
          refine wp_iconst (pc := 52) (v := nI 1) dX2_readGrans_52 rfl ?_
          refine wp_bipush (pc := 53) (v := nI 9) dX2_readGrans_53 rfl ?_
          refine wp_cV2i (pc := 55) lk_X2_54 dX2_readGrans_55 rfl rfl rfl (sp_numF (rx_q hX2 (by omega)) hB ha' (by omega) (by omega) (fun x => ?_))
          first | (with_reducible show WP _ _ _ _ _ _ (_ :: Value.int (nI _) :: _) _; refine wp_iastN (pc := 58) dX2_readGrans_58 rfl (by omega) ?_) | refine wp_iast (pc := 58) dX2_readGrans_58 rfl (by assumption) rfl ?_
          refine wp_aload_n (pc := 59) (i := 0) dX2_readGrans_59 rfl rfl ?_
          refine wp_bipush (pc := 60) (v := nI 44) dX2_readGrans_60 rfl ?_
          refine wp_cV1v (pc := 62) lk_X2_50 dX2_readGrans_62 rfl rfl rfl (sp_takeSignF (rx_q (rx_q hX2 (by omega)) (by omega)) hB ha' (by omega) (by omega) ?_)
          refine wp_aload_n (pc := 65) (i := 0) dX2_readGrans_65 rfl rfl ?_
          refine wp_gfr (pc := 66) fk_X2_12 dX2_readGrans_66 rfl rfl (by decide) ?_
          refine wp_gfr (pc := 69) fk_X2_89 dX2_readGrans_69 rfl rfl (by decide) ?_
          refine wp_iload_n (pc := 72) (i := 1) dX2_readGrans_72 rfl rfl ?_
          refine wp_aload_n (pc := 73) (i := 0) dX2_readGrans_73 rfl rfl ?_
          refine wp_iconst (pc := 74) (v := nI 0) dX2_readGrans_74 rfl ?_
          refine wp_aload_n (pc := 75) (i := 0) dX2_readGrans_75 rfl rfl ?_
          refine wp_gfr (pc := 76) fk_X2_12 dX2_readGrans_76 rfl rfl (by decide) ?_
          refine wp_gfv (pc := 79) fk_X2_35 dX2_readGrans_79 rfl rfl (by first | with_reducible assumption | with_reducible exact hs_same _ _ _ _ | rfl) ?_
          refine wp_iconst (pc := 82) (v := nI 1) dX2_readGrans_82 rfl ?_
          first | (with_reducible show WP _ _ _ _ _ _ (Value.int (nI _) :: Value.int (nI _) :: _) _; refine wp_isubN (pc := 83) dX2_readGrans_83 (by omega) ?_) | refine wp_isub (pc := 83) dX2_readGrans_83 ?_
          refine wp_cV2i (pc := 84) lk_X2_54 dX2_readGrans_84 rfl rfl rfl (sp_numF (rx_q (rx_q hX2 (by omega)) (by omega)) hB ha' (by omega) (by omega) (fun y => ?_))
          first | (with_reducible show WP _ _ _ _ _ _ (_ :: Value.int (nI _) :: _) _; refine wp_iastN (pc := 87) dX2_readGrans_87 rfl (by omega) ?_) | refine wp_iast (pc := 87) dX2_readGrans_87 rfl (by assumption) rfl ?_
          refine wp_aload_n (pc := 88) (i := 0) dX2_readGrans_88 rfl rfl ?_
          refine wp_bipush (pc := 89) (v := nI 44) dX2_readGrans_89 rfl ?_
          refine wp_cV1v (pc := 91) lk_X2_50 dX2_readGrans_91 rfl rfl rfl (sp_takeSignF (rx_q (rx_q (rx_q hX2 (by omega)) (by omega)) (by omega)) hB ha' (by omega) (by omega) ?_)
          refine wp_aload_n (pc := 94) (i := 0) dX2_readGrans_94 rfl rfl ?_
          refine wp_gfr (pc := 95) fk_X2_12 dX2_readGrans_95 rfl rfl (by decide) ?_
          refine wp_gfr (pc := 98) fk_X2_92 dX2_readGrans_98 rfl rfl (by decide) ?_
          refine wp_iload_n (pc := 101) (i := 1) dX2_readGrans_101 rfl rfl ?_
          refine wp_aload_n (pc := 102) (i := 0) dX2_readGrans_102 rfl rfl ?_
          refine wp_iconst (pc := 103) (v := nI 0) dX2_readGrans_103 rfl ?_
          refine wp_iconst (pc := 104) (v := nI 4) dX2_readGrans_104 rfl ?_
          refine wp_cV2i (pc := 105) lk_X2_54 dX2_readGrans_105 rfl rfl rfl (sp_numF (rx_q (rx_q (rx_q hX2 (by omega)) (by omega)) (by omega)) hB ha' (by omega) (by omega) (fun z => ?_))
          first | (with_reducible show WP _ _ _ _ _ _ (_ :: Value.int (nI _) :: _) _; refine wp_iastN (pc := 108) dX2_readGrans_108 rfl (by omega) ?_) | refine wp_iast (pc := 108) dX2_readGrans_108 rfl (by assumption) rfl ?_
          refine wp_aload_n (pc := 109) (i := 0) dX2_readGrans_109 rfl rfl ?_
          refine wp_bipush (pc := 110) (v := nI 59) dX2_readGrans_110 rfl ?_
          refine wp_cV1v (pc := 112) lk_X2_50 dX2_readGrans_112 rfl rfl rfl (sp_takeSignF (rx_q (rx_q (rx_q (rx_q hX2 (by omega)) (by omega)) (by omega)) (by omega)) hB ha' (by omega) (by omega) ?_)
          refine wp_aload_n (pc := 115) (i := 0) dX2_readGrans_115 rfl rfl ?_
          refine wp_gfr (pc := 116) fk_X2_12 dX2_readGrans_116 rfl rfl (by decide) ?_
          refine wp_gfr (pc := 119) fk_X2_95 dX2_readGrans_119 rfl rfl (by decide) ?_
          refine wp_iload_n (pc := 122) (i := 1) dX2_readGrans_122 rfl rfl ?_
          refine wp_iconst (pc := 123) (v := nI 0) dX2_readGrans_123 rfl ?_
          first | (with_reducible show WP _ _ _ _ _ _ (_ :: Value.int (nI _) :: _) _; refine wp_iastN (pc := 124) dX2_readGrans_124 rfl (by omega) ?_) | refine wp_iast (pc := 124) dX2_readGrans_124 rfl (by assumption) rfl ?_
          refine wp_aload_n (pc := 125) (i := 0) dX2_readGrans_125 rfl rfl ?_
          refine wp_gfr (pc := 126) fk_X2_12 dX2_readGrans_126 rfl rfl (by decide) ?_
          refine wp_gfr (pc := 129) fk_X2_98 dX2_readGrans_129 rfl rfl (by decide) ?_
          refine wp_iload_n (pc := 132) (i := 1) dX2_readGrans_132 rfl rfl ?_
          refine wp_iconst (pc := 133) (v := nI 0) dX2_readGrans_133 rfl ?_
          first | (with_reducible show WP _ _ _ _ _ _ (_ :: Value.int (nI _) :: _) _; refine wp_iastN (pc := 134) dX2_readGrans_134 rfl (by omega) ?_) | refine wp_iast (pc := 134) dX2_readGrans_134 rfl (by assumption) rfl ?_
          refine wp_aload_n (pc := 135) (i := 0) dX2_readGrans_135 rfl rfl ?_
          refine wp_gfr (pc := 136) fk_X2_12 dX2_readGrans_136 rfl rfl (by decide) ?_
          refine wp_iload_n (pc := 139) (i := 1) dX2_readGrans_139 rfl rfl ?_
          refine wp_iconst (pc := 140) (v := nI 1) dX2_readGrans_140 rfl ?_
          first | (with_reducible show WP _ _ _ _ _ _ (Value.int (nI _) :: Value.int (nI _) :: _) _; refine wp_iaddN (pc := 141) dX2_readGrans_141 ?_) | refine wp_iadd (pc := 141) dX2_readGrans_141 ?_
          refine wp_pf (pc := 142) fp_X2_38 dX2_readGrans_142 rfl rfl rfl rfl ?_
          first | refine wp_iincN (pc := 145) (i := 1) (n := 1) dX2_readGrans_145 rfl rfl (by decide) rfl ?_ | refine wp_iinc (pc := 145) (i := 1) dX2_readGrans_145 rfl rfl rfl (by decide) rfl ?_
          dsimp only [List.set_cons_zero, List.set_cons_succ]
          refine wp_goto (pc := 148) (tgt := 2) dX2_readGrans_148 (by decide) ?_
          rotate_left
          refine rg_flt (rx_q (rx_q (rx_q (rx_q (rx_q (rx_q (rx_q hX2 (by omega)) (by omega)) (by omega)) (by omega)) (by omega)) (by omega)) (by omega)) hB ha' (by omega) (by omega) (by omega) (kF _ 1 a' ?_ (by omega) (by omega) ha' (rx_q (rx_q (rx_q (rx_q (rx_q (rx_q (rx_q hX2 (by omega)) (by omega)) (by omega)) (by omega)) (by omega)) (by omega)) (by omega)) ((((((((hF1.e e2).hs (by omega)).hs (by omega)).hs (by omega)).hs (by omega)).hs (by omega)).hs (by omega)).hs (by omega)))
          rw [hS]
          by_cases y : n = 0
          · rw [if_pos ⟨y, by omega⟩]
          · rw [if_neg (fun q => y q.1), rGrs, if_neg (by omega), rEnd_no (by omega)]
        have hS2 : rGrs1 B T a = rGran B V (ko B a') (a' + 1) (rGrs B m) := by rw [hS, if_neg (fun q => q.2 p0), rGrs, if_pos p0]
        first | (with_reducible show WP _ _ _ _ _ _ (_ :: Value.int (nI _) :: _) _; refine wp_iastN (pc := 42) dX2_readGrans_42 rfl (by omega) ?_) | refine wp_iast (pc := 42) dX2_readGrans_42 rfl (by assumption) rfl ?_
        refine wp_aload_n (pc := 43) (i := 0) dX2_readGrans_43 rfl rfl ?_
        refine wp_gfr (pc := 44) fk_X2_12 dX2_readGrans_44 rfl rfl (by decide) ?_
        refine wp_gfr (pc := 47) fk_X2_86 dX2_readGrans_47 rfl rfl (by decide) ?_
        refine wp_iload_n (pc := 50) (i := 1) dX2_readGrans_50 rfl rfl ?_
        refine wp_aload_n (pc := 51) (i := 0) dX2_readGrans_51 rfl rfl ?_
        refine wp_iconst (pc := 52) (v := nI 1) dX2_readGrans_52 rfl ?_
        refine wp_bipush (pc := 53) (v := nI 9) dX2_readGrans_53 rfl ?_
        refine wp_cV2i (pc := 55) lk_X2_54 dX2_readGrans_55 rfl rfl rfl (sp_num (rx_q hX2 (by omega)) hB l1 (by omega) (by omega) (fun n1 n2 p2 l2 h3 hX3 e3 => ?_) (fun w w0 w3 p2 x h3 hX3 e3 => ?_))
        rotate_left
        · first | (with_reducible show WP _ _ _ _ _ _ (_ :: Value.int (nI _) :: _) _; refine wp_iastN (pc := 58) dX2_readGrans_58 rfl (by omega) ?_) | refine wp_iast (pc := 58) dX2_readGrans_58 rfl (by assumption) rfl ?_
          refine wp_aload_n (pc := 59) (i := 0) dX2_readGrans_59 rfl rfl ?_
          refine wp_bipush (pc := 60) (v := nI 44) dX2_readGrans_60 rfl ?_
          refine wp_cV1v (pc := 62) lk_X2_50 dX2_readGrans_62 rfl rfl rfl (sp_takeSignF (rx_q hX3 (by omega)) hB l1 w3 w0 ?_)
          refine wp_aload_n (pc := 65) (i := 0) dX2_readGrans_65 rfl rfl ?_
          refine wp_gfr (pc := 66) fk_X2_12 dX2_readGrans_66 rfl rfl (by decide) ?_
          refine wp_gfr (pc := 69) fk_X2_89 dX2_readGrans_69 rfl rfl (by decide) ?_
          refine wp_iload_n (pc := 72) (i := 1) dX2_readGrans_72 rfl rfl ?_
          refine wp_aload_n (pc := 73) (i := 0) dX2_readGrans_73 rfl rfl ?_
          refine wp_iconst (pc := 74) (v := nI 0) dX2_readGrans_74 rfl ?_
          refine wp_aload_n (pc := 75) (i := 0) dX2_readGrans_75 rfl rfl ?_
          refine wp_gfr (pc := 76) fk_X2_12 dX2_readGrans_76 rfl rfl (by decide) ?_
          refine wp_gfv (pc := 79) fk_X2_35 dX2_readGrans_79 rfl rfl (by first | with_reducible assumption | with_reducible exact hs_same _ _ _ _ | rfl) ?_
          refine wp_iconst (pc := 82) (v := nI 1) dX2_readGrans_82 rfl ?_
          first | (with_reducible show WP _ _ _ _ _ _ (Value.int (nI _) :: Value.int (nI _) :: _) _; refine wp_isubN (pc := 83) dX2_readGrans_83 (by omega) ?_) | refine wp_isub (pc := 83) dX2_readGrans_83 ?_
          refine wp_cV2i (pc := 84) lk_X2_54 dX2_readGrans_84 rfl rfl rfl (sp_numF (rx_q hX3 (by omega)) hB l1 w3 w0 (fun y => ?_))
          first | (with_reducible show WP _ _ _ _ _ _ (_ :: Value.int (nI _) :: _) _; refine wp_iastN (pc := 87) dX2_readGrans_87 rfl (by omega) ?_) | refine wp_iast (pc := 87) dX2_readGrans_87 rfl (by assumption) rfl ?_
          refine wp_aload_n (pc := 88) (i := 0) dX2_readGrans_88 rfl rfl ?_
          refine wp_bipush (pc := 89) (v := nI 44) dX2_readGrans_89 rfl ?_
          refine wp_cV1v (pc := 91) lk_X2_50 dX2_readGrans_91 rfl rfl rfl (sp_takeSignF (rx_q (rx_q hX3 (by omega)) (by omega)) hB l1 w3 w0 ?_)
          refine wp_aload_n (pc := 94) (i := 0) dX2_readGrans_94 rfl rfl ?_
          refine wp_gfr (pc := 95) fk_X2_12 dX2_readGrans_95 rfl rfl (by decide) ?_
          refine wp_gfr (pc := 98) fk_X2_92 dX2_readGrans_98 rfl rfl (by decide) ?_
          refine wp_iload_n (pc := 101) (i := 1) dX2_readGrans_101 rfl rfl ?_
          refine wp_aload_n (pc := 102) (i := 0) dX2_readGrans_102 rfl rfl ?_
          refine wp_iconst (pc := 103) (v := nI 0) dX2_readGrans_103 rfl ?_
          refine wp_iconst (pc := 104) (v := nI 4) dX2_readGrans_104 rfl ?_
          refine wp_cV2i (pc := 105) lk_X2_54 dX2_readGrans_105 rfl rfl rfl (sp_numF (rx_q (rx_q hX3 (by omega)) (by omega)) hB l1 w3 w0 (fun z => ?_))
          first | (with_reducible show WP _ _ _ _ _ _ (_ :: Value.int (nI _) :: _) _; refine wp_iastN (pc := 108) dX2_readGrans_108 rfl (by omega) ?_) | refine wp_iast (pc := 108) dX2_readGrans_108 rfl (by assumption) rfl ?_
          refine wp_aload_n (pc := 109) (i := 0) dX2_readGrans_109 rfl rfl ?_
          refine wp_bipush (pc := 110) (v := nI 59) dX2_readGrans_110 rfl ?_
          refine wp_cV1v (pc := 112) lk_X2_50 dX2_readGrans_112 rfl rfl rfl (sp_takeSignF (rx_q (rx_q (rx_q hX3 (by omega)) (by omega)) (by omega)) hB l1 w3 w0 ?_)
          refine wp_aload_n (pc := 115) (i := 0) dX2_readGrans_115 rfl rfl ?_
          refine wp_gfr (pc := 116) fk_X2_12 dX2_readGrans_116 rfl rfl (by decide) ?_
          refine wp_gfr (pc := 119) fk_X2_95 dX2_readGrans_119 rfl rfl (by decide) ?_
          refine wp_iload_n (pc := 122) (i := 1) dX2_readGrans_122 rfl rfl ?_
          refine wp_iconst (pc := 123) (v := nI 0) dX2_readGrans_123 rfl ?_
          first | (with_reducible show WP _ _ _ _ _ _ (_ :: Value.int (nI _) :: _) _; refine wp_iastN (pc := 124) dX2_readGrans_124 rfl (by omega) ?_) | refine wp_iast (pc := 124) dX2_readGrans_124 rfl (by assumption) rfl ?_
          refine wp_aload_n (pc := 125) (i := 0) dX2_readGrans_125 rfl rfl ?_
          refine wp_gfr (pc := 126) fk_X2_12 dX2_readGrans_126 rfl rfl (by decide) ?_
          refine wp_gfr (pc := 129) fk_X2_98 dX2_readGrans_129 rfl rfl (by decide) ?_
          refine wp_iload_n (pc := 132) (i := 1) dX2_readGrans_132 rfl rfl ?_
          refine wp_iconst (pc := 133) (v := nI 0) dX2_readGrans_133 rfl ?_
          first | (with_reducible show WP _ _ _ _ _ _ (_ :: Value.int (nI _) :: _) _; refine wp_iastN (pc := 134) dX2_readGrans_134 rfl (by omega) ?_) | refine wp_iast (pc := 134) dX2_readGrans_134 rfl (by assumption) rfl ?_
          refine wp_aload_n (pc := 135) (i := 0) dX2_readGrans_135 rfl rfl ?_
          refine wp_gfr (pc := 136) fk_X2_12 dX2_readGrans_136 rfl rfl (by decide) ?_
          refine wp_iload_n (pc := 139) (i := 1) dX2_readGrans_139 rfl rfl ?_
          refine wp_iconst (pc := 140) (v := nI 1) dX2_readGrans_140 rfl ?_
          first | (with_reducible show WP _ _ _ _ _ _ (Value.int (nI _) :: Value.int (nI _) :: _) _; refine wp_iaddN (pc := 141) dX2_readGrans_141 ?_) | refine wp_iadd (pc := 141) dX2_readGrans_141 ?_
          refine wp_pf (pc := 142) fp_X2_38 dX2_readGrans_142 rfl rfl rfl rfl ?_
          first | refine wp_iincN (pc := 145) (i := 1) (n := 1) dX2_readGrans_145 rfl rfl (by decide) rfl ?_ | refine wp_iinc (pc := 145) (i := 1) dX2_readGrans_145 rfl rfl rfl (by decide) rfl ?_
          dsimp only [List.set_cons_zero, List.set_cons_succ]
          refine wp_goto (pc := 148) (tgt := 2) dX2_readGrans_148 (by decide) ?_
          rotate_left
          exact rg_flt (rx_q (rx_q (rx_q (rx_q (rx_q (rx_q hX3 (by omega)) (by omega)) (by omega)) (by omega)) (by omega)) (by omega)) hB l1 w3 w0 (by omega) (kF _ w _ (by rw [hS2, rGran, p2]) w0 w3 l1 (rx_q (rx_q (rx_q (rx_q (rx_q (rx_q hX3 (by omega)) (by omega)) (by omega)) (by omega)) (by omega)) (by omega)) (((((((((hF1.e e2).hs (by omega)).e e3).hs (by omega)).hs (by omega)).hs (by omega)).hs (by omega)).hs (by omega)).hs (by omega)))
        first | (with_reducible show WP _ _ _ _ _ _ (_ :: Value.int (nI _) :: _) _; refine wp_iastN (pc := 58) dX2_readGrans_58 rfl (by omega) ?_) | refine wp_iast (pc := 58) dX2_readGrans_58 rfl (by assumption) rfl ?_
        refine wp_aload_n (pc := 59) (i := 0) dX2_readGrans_59 rfl rfl ?_
        refine wp_bipush (pc := 60) (v := nI 44) dX2_readGrans_60 rfl ?_
        refine wp_cV1v (pc := 62) lk_X2_50 dX2_readGrans_62 rfl rfl rfl (sp_sign (rx_q hX3 (by omega)) hB l2 (by omega) (fun p0' p3 l3 h4 hX4 e4 => ?_) (fun p0' p3 h4 hX4 e4 => ?_))
        rotate_left
        · refine wp_aload_n (pc := 65) (i := 0) dX2_readGrans_65 rfl rfl ?_
          refine wp_gfr (pc := 66) fk_X2_12 dX2_readGrans_66 rfl rfl (by decide) ?_
          refine wp_gfr (pc := 69) fk_X2_89 dX2_readGrans_69 rfl rfl (by decide) ?_
          refine wp_iload_n (pc := 72) (i := 1) dX2_readGrans_72 rfl rfl ?_
          refine wp_aload_n (pc := 73) (i := 0) dX2_readGrans_73 rfl rfl ?_
          refine wp_iconst (pc := 74) (v := nI 0) dX2_readGrans_74 rfl ?_
          refine wp_aload_n (pc := 75) (i := 0) dX2_readGrans_75 rfl rfl ?_
          refine wp_gfr (pc := 76) fk_X2_12 dX2_readGrans_76 rfl rfl (by decide) ?_
          refine wp_gfv (pc := 79) fk_X2_35 dX2_readGrans_79 rfl rfl (by first | with_reducible assumption | with_reducible exact hs_same _ _ _ _ | rfl) ?_
          refine wp_iconst (pc := 82) (v := nI 1) dX2_readGrans_82 rfl ?_
          first | (with_reducible show WP _ _ _ _ _ _ (Value.int (nI _) :: Value.int (nI _) :: _) _; refine wp_isubN (pc := 83) dX2_readGrans_83 (by omega) ?_) | refine wp_isub (pc := 83) dX2_readGrans_83 ?_
          refine wp_cV2i (pc := 84) lk_X2_54 dX2_readGrans_84 rfl rfl rfl (sp_numF hX4 hB l2 (by omega) (by omega) (fun y => ?_))
          first | (with_reducible show WP _ _ _ _ _ _ (_ :: Value.int (nI _) :: _) _; refine wp_iastN (pc := 87) dX2_readGrans_87 rfl (by omega) ?_) | refine wp_iast (pc := 87) dX2_readGrans_87 rfl (by assumption) rfl ?_
          refine wp_aload_n (pc := 88) (i := 0) dX2_readGrans_88 rfl rfl ?_
          refine wp_bipush (pc := 89) (v := nI 44) dX2_readGrans_89 rfl ?_
          refine wp_cV1v (pc := 91) lk_X2_50 dX2_readGrans_91 rfl rfl rfl (sp_takeSignF (rx_q hX4 (by omega)) hB l2 (by omega) (by omega) ?_)
          refine wp_aload_n (pc := 94) (i := 0) dX2_readGrans_94 rfl rfl ?_
          refine wp_gfr (pc := 95) fk_X2_12 dX2_readGrans_95 rfl rfl (by decide) ?_
          refine wp_gfr (pc := 98) fk_X2_92 dX2_readGrans_98 rfl rfl (by decide) ?_
          refine wp_iload_n (pc := 101) (i := 1) dX2_readGrans_101 rfl rfl ?_
          refine wp_aload_n (pc := 102) (i := 0) dX2_readGrans_102 rfl rfl ?_
          refine wp_iconst (pc := 103) (v := nI 0) dX2_readGrans_103 rfl ?_
          refine wp_iconst (pc := 104) (v := nI 4) dX2_readGrans_104 rfl ?_
          refine wp_cV2i (pc := 105) lk_X2_54 dX2_readGrans_105 rfl rfl rfl (sp_numF (rx_q hX4 (by omega)) hB l2 (by omega) (by omega) (fun z => ?_))
          first | (with_reducible show WP _ _ _ _ _ _ (_ :: Value.int (nI _) :: _) _; refine wp_iastN (pc := 108) dX2_readGrans_108 rfl (by omega) ?_) | refine wp_iast (pc := 108) dX2_readGrans_108 rfl (by assumption) rfl ?_
          refine wp_aload_n (pc := 109) (i := 0) dX2_readGrans_109 rfl rfl ?_
          refine wp_bipush (pc := 110) (v := nI 59) dX2_readGrans_110 rfl ?_
          refine wp_cV1v (pc := 112) lk_X2_50 dX2_readGrans_112 rfl rfl rfl (sp_takeSignF (rx_q (rx_q hX4 (by omega)) (by omega)) hB l2 (by omega) (by omega) ?_)
          refine wp_aload_n (pc := 115) (i := 0) dX2_readGrans_115 rfl rfl ?_
          refine wp_gfr (pc := 116) fk_X2_12 dX2_readGrans_116 rfl rfl (by decide) ?_
          refine wp_gfr (pc := 119) fk_X2_95 dX2_readGrans_119 rfl rfl (by decide) ?_
          refine wp_iload_n (pc := 122) (i := 1) dX2_readGrans_122 rfl rfl ?_
          refine wp_iconst (pc := 123) (v := nI 0) dX2_readGrans_123 rfl ?_
          first | (with_reducible show WP _ _ _ _ _ _ (_ :: Value.int (nI _) :: _) _; refine wp_iastN (pc := 124) dX2_readGrans_124 rfl (by omega) ?_) | refine wp_iast (pc := 124) dX2_readGrans_124 rfl (by assumption) rfl ?_
          refine wp_aload_n (pc := 125) (i := 0) dX2_readGrans_125 rfl rfl ?_
          refine wp_gfr (pc := 126) fk_X2_12 dX2_readGrans_126 rfl rfl (by decide) ?_
          refine wp_gfr (pc := 129) fk_X2_98 dX2_readGrans_129 rfl rfl (by decide) ?_
          refine wp_iload_n (pc := 132) (i := 1) dX2_readGrans_132 rfl rfl ?_
          refine wp_iconst (pc := 133) (v := nI 0) dX2_readGrans_133 rfl ?_
          first | (with_reducible show WP _ _ _ _ _ _ (_ :: Value.int (nI _) :: _) _; refine wp_iastN (pc := 134) dX2_readGrans_134 rfl (by omega) ?_) | refine wp_iast (pc := 134) dX2_readGrans_134 rfl (by assumption) rfl ?_
          refine wp_aload_n (pc := 135) (i := 0) dX2_readGrans_135 rfl rfl ?_
          refine wp_gfr (pc := 136) fk_X2_12 dX2_readGrans_136 rfl rfl (by decide) ?_
          refine wp_iload_n (pc := 139) (i := 1) dX2_readGrans_139 rfl rfl ?_
          refine wp_iconst (pc := 140) (v := nI 1) dX2_readGrans_140 rfl ?_
          first | (with_reducible show WP _ _ _ _ _ _ (Value.int (nI _) :: Value.int (nI _) :: _) _; refine wp_iaddN (pc := 141) dX2_readGrans_141 ?_) | refine wp_iadd (pc := 141) dX2_readGrans_141 ?_
          refine wp_pf (pc := 142) fp_X2_38 dX2_readGrans_142 rfl rfl rfl rfl ?_
          first | refine wp_iincN (pc := 145) (i := 1) (n := 1) dX2_readGrans_145 rfl rfl (by decide) rfl ?_ | refine wp_iinc (pc := 145) (i := 1) dX2_readGrans_145 rfl rfl rfl (by decide) rfl ?_
          dsimp only [List.set_cons_zero, List.set_cons_succ]
          refine wp_goto (pc := 148) (tgt := 2) dX2_readGrans_148 (by decide) ?_
          rotate_left
          exact rg_flt (rx_q (rx_q (rx_q (rx_q (rx_q hX4 (by omega)) (by omega)) (by omega)) (by omega)) (by omega)) hB l2 (by omega) (by omega) (by omega) (kF _ 1 _ (by rw [hS2, rGran, p2, p3]) (by omega) (by omega) l2 (rx_q (rx_q (rx_q (rx_q (rx_q hX4 (by omega)) (by omega)) (by omega)) (by omega)) (by omega)) ((((((((((hF1.e e2).hs (by omega)).e e3).hs (by omega)).e e4).hs (by omega)).hs (by omega)).hs (by omega)).hs (by omega)).hs (by omega)))
        have ez : h4 15 2 = nI (V 0) := by rw [e4 15 (by decide), hs_ne (by decide), e3 15 (by decide), hs_ne (by decide), e2 15 (by decide)]; exact hW1.2.2.1
        refine wp_aload_n (pc := 65) (i := 0) dX2_readGrans_65 rfl rfl ?_
        refine wp_gfr (pc := 66) fk_X2_12 dX2_readGrans_66 rfl rfl (by decide) ?_
        refine wp_gfr (pc := 69) fk_X2_89 dX2_readGrans_69 rfl rfl (by decide) ?_
        refine wp_iload_n (pc := 72) (i := 1) dX2_readGrans_72 rfl rfl ?_
        refine wp_aload_n (pc := 73) (i := 0) dX2_readGrans_73 rfl rfl ?_
        refine wp_iconst (pc := 74) (v := nI 0) dX2_readGrans_74 rfl ?_
        refine wp_aload_n (pc := 75) (i := 0) dX2_readGrans_75 rfl rfl ?_
        refine wp_gfr (pc := 76) fk_X2_12 dX2_readGrans_76 rfl rfl (by decide) ?_
        refine wp_gfv (pc := 79) fk_X2_35 dX2_readGrans_79 rfl rfl (by first | with_reducible assumption | with_reducible exact hs_same _ _ _ _ | rfl) ?_
        refine wp_iconst (pc := 82) (v := nI 1) dX2_readGrans_82 rfl ?_
        first | (with_reducible show WP _ _ _ _ _ _ (Value.int (nI _) :: Value.int (nI _) :: _) _; refine wp_isubN (pc := 83) dX2_readGrans_83 (by omega) ?_) | refine wp_isub (pc := 83) dX2_readGrans_83 ?_
        refine wp_cV2i (pc := 84) lk_X2_54 dX2_readGrans_84 rfl rfl rfl (sp_num hX4 hB l3 (by omega) (by omega) (fun n3 n4 p4 l4 h5 hX5 e5 => ?_) (fun w w0 w3 p4 x h5 hX5 e5 => ?_))
        rotate_left
        · first | (with_reducible show WP _ _ _ _ _ _ (_ :: Value.int (nI _) :: _) _; refine wp_iastN (pc := 87) dX2_readGrans_87 rfl (by omega) ?_) | refine wp_iast (pc := 87) dX2_readGrans_87 rfl (by assumption) rfl ?_
          refine wp_aload_n (pc := 88) (i := 0) dX2_readGrans_88 rfl rfl ?_
          refine wp_bipush (pc := 89) (v := nI 44) dX2_readGrans_89 rfl ?_
          refine wp_cV1v (pc := 91) lk_X2_50 dX2_readGrans_91 rfl rfl rfl (sp_takeSignF (rx_q hX5 (by omega)) hB l3 w3 w0 ?_)
          refine wp_aload_n (pc := 94) (i := 0) dX2_readGrans_94 rfl rfl ?_
          refine wp_gfr (pc := 95) fk_X2_12 dX2_readGrans_95 rfl rfl (by decide) ?_
          refine wp_gfr (pc := 98) fk_X2_92 dX2_readGrans_98 rfl rfl (by decide) ?_
          refine wp_iload_n (pc := 101) (i := 1) dX2_readGrans_101 rfl rfl ?_
          refine wp_aload_n (pc := 102) (i := 0) dX2_readGrans_102 rfl rfl ?_
          refine wp_iconst (pc := 103) (v := nI 0) dX2_readGrans_103 rfl ?_
          refine wp_iconst (pc := 104) (v := nI 4) dX2_readGrans_104 rfl ?_
          refine wp_cV2i (pc := 105) lk_X2_54 dX2_readGrans_105 rfl rfl rfl (sp_numF (rx_q hX5 (by omega)) hB l3 w3 w0 (fun z => ?_))
          first | (with_reducible show WP _ _ _ _ _ _ (_ :: Value.int (nI _) :: _) _; refine wp_iastN (pc := 108) dX2_readGrans_108 rfl (by omega) ?_) | refine wp_iast (pc := 108) dX2_readGrans_108 rfl (by assumption) rfl ?_
          refine wp_aload_n (pc := 109) (i := 0) dX2_readGrans_109 rfl rfl ?_
          refine wp_bipush (pc := 110) (v := nI 59) dX2_readGrans_110 rfl ?_
          refine wp_cV1v (pc := 112) lk_X2_50 dX2_readGrans_112 rfl rfl rfl (sp_takeSignF (rx_q (rx_q hX5 (by omega)) (by omega)) hB l3 w3 w0 ?_)
          refine wp_aload_n (pc := 115) (i := 0) dX2_readGrans_115 rfl rfl ?_
          refine wp_gfr (pc := 116) fk_X2_12 dX2_readGrans_116 rfl rfl (by decide) ?_
          refine wp_gfr (pc := 119) fk_X2_95 dX2_readGrans_119 rfl rfl (by decide) ?_
          refine wp_iload_n (pc := 122) (i := 1) dX2_readGrans_122 rfl rfl ?_
          refine wp_iconst (pc := 123) (v := nI 0) dX2_readGrans_123 rfl ?_
          first | (with_reducible show WP _ _ _ _ _ _ (_ :: Value.int (nI _) :: _) _; refine wp_iastN (pc := 124) dX2_readGrans_124 rfl (by omega) ?_) | refine wp_iast (pc := 124) dX2_readGrans_124 rfl (by assumption) rfl ?_
          refine wp_aload_n (pc := 125) (i := 0) dX2_readGrans_125 rfl rfl ?_
          refine wp_gfr (pc := 126) fk_X2_12 dX2_readGrans_126 rfl rfl (by decide) ?_
          refine wp_gfr (pc := 129) fk_X2_98 dX2_readGrans_129 rfl rfl (by decide) ?_
          refine wp_iload_n (pc := 132) (i := 1) dX2_readGrans_132 rfl rfl ?_
          refine wp_iconst (pc := 133) (v := nI 0) dX2_readGrans_133 rfl ?_
          first | (with_reducible show WP _ _ _ _ _ _ (_ :: Value.int (nI _) :: _) _; refine wp_iastN (pc := 134) dX2_readGrans_134 rfl (by omega) ?_) | refine wp_iast (pc := 134) dX2_readGrans_134 rfl (by assumption) rfl ?_
          refine wp_aload_n (pc := 135) (i := 0) dX2_readGrans_135 rfl rfl ?_
          refine wp_gfr (pc := 136) fk_X2_12 dX2_readGrans_136 rfl rfl (by decide) ?_
          refine wp_iload_n (pc := 139) (i := 1) dX2_readGrans_139 rfl rfl ?_
          refine wp_iconst (pc := 140) (v := nI 1) dX2_readGrans_140 rfl ?_
          first | (with_reducible show WP _ _ _ _ _ _ (Value.int (nI _) :: Value.int (nI _) :: _) _; refine wp_iaddN (pc := 141) dX2_readGrans_141 ?_) | refine wp_iadd (pc := 141) dX2_readGrans_141 ?_
          refine wp_pf (pc := 142) fp_X2_38 dX2_readGrans_142 rfl rfl rfl rfl ?_
          first | refine wp_iincN (pc := 145) (i := 1) (n := 1) dX2_readGrans_145 rfl rfl (by decide) rfl ?_ | refine wp_iinc (pc := 145) (i := 1) dX2_readGrans_145 rfl rfl rfl (by decide) rfl ?_
          dsimp only [List.set_cons_zero, List.set_cons_succ]
          refine wp_goto (pc := 148) (tgt := 2) dX2_readGrans_148 (by decide) ?_
          rotate_left
          exact rg_flt (rx_q (rx_q (rx_q (rx_q (rx_q hX5 (by omega)) (by omega)) (by omega)) (by omega)) (by omega)) hB l3 w3 w0 (by omega) (kF _ w _ (by rw [hS2, rGran, p2, p3, p4]) w0 w3 l3 (rx_q (rx_q (rx_q (rx_q (rx_q hX5 (by omega)) (by omega)) (by omega)) (by omega)) (by omega)) (((((((((((hF1.e e2).hs (by omega)).e e3).hs (by omega)).e e4).e e5).hs (by omega)).hs (by omega)).hs (by omega)).hs (by omega)).hs (by omega)))
        first | (with_reducible show WP _ _ _ _ _ _ (_ :: Value.int (nI _) :: _) _; refine wp_iastN (pc := 87) dX2_readGrans_87 rfl (by omega) ?_) | refine wp_iast (pc := 87) dX2_readGrans_87 rfl (by assumption) rfl ?_
        refine wp_aload_n (pc := 88) (i := 0) dX2_readGrans_88 rfl rfl ?_
        refine wp_bipush (pc := 89) (v := nI 44) dX2_readGrans_89 rfl ?_
        refine wp_cV1v (pc := 91) lk_X2_50 dX2_readGrans_91 rfl rfl rfl (sp_sign (rx_q hX5 (by omega)) hB l4 (by omega) (fun p0' p5 l5 h6 hX6 e6 => ?_) (fun p0' p5 h6 hX6 e6 => ?_))
        rotate_left
        · refine wp_aload_n (pc := 94) (i := 0) dX2_readGrans_94 rfl rfl ?_
          refine wp_gfr (pc := 95) fk_X2_12 dX2_readGrans_95 rfl rfl (by decide) ?_
          refine wp_gfr (pc := 98) fk_X2_92 dX2_readGrans_98 rfl rfl (by decide) ?_
          refine wp_iload_n (pc := 101) (i := 1) dX2_readGrans_101 rfl rfl ?_
          refine wp_aload_n (pc := 102) (i := 0) dX2_readGrans_102 rfl rfl ?_
          refine wp_iconst (pc := 103) (v := nI 0) dX2_readGrans_103 rfl ?_
          refine wp_iconst (pc := 104) (v := nI 4) dX2_readGrans_104 rfl ?_
          refine wp_cV2i (pc := 105) lk_X2_54 dX2_readGrans_105 rfl rfl rfl (sp_numF hX6 hB l4 (by omega) (by omega) (fun z => ?_))
          first | (with_reducible show WP _ _ _ _ _ _ (_ :: Value.int (nI _) :: _) _; refine wp_iastN (pc := 108) dX2_readGrans_108 rfl (by omega) ?_) | refine wp_iast (pc := 108) dX2_readGrans_108 rfl (by assumption) rfl ?_
          refine wp_aload_n (pc := 109) (i := 0) dX2_readGrans_109 rfl rfl ?_
          refine wp_bipush (pc := 110) (v := nI 59) dX2_readGrans_110 rfl ?_
          refine wp_cV1v (pc := 112) lk_X2_50 dX2_readGrans_112 rfl rfl rfl (sp_takeSignF (rx_q hX6 (by omega)) hB l4 (by omega) (by omega) ?_)
          refine wp_aload_n (pc := 115) (i := 0) dX2_readGrans_115 rfl rfl ?_
          refine wp_gfr (pc := 116) fk_X2_12 dX2_readGrans_116 rfl rfl (by decide) ?_
          refine wp_gfr (pc := 119) fk_X2_95 dX2_readGrans_119 rfl rfl (by decide) ?_
          refine wp_iload_n (pc := 122) (i := 1) dX2_readGrans_122 rfl rfl ?_
          refine wp_iconst (pc := 123) (v := nI 0) dX2_readGrans_123 rfl ?_
          first | (with_reducible show WP _ _ _ _ _ _ (_ :: Value.int (nI _) :: _) _; refine wp_iastN (pc := 124) dX2_readGrans_124 rfl (by omega) ?_) | refine wp_iast (pc := 124) dX2_readGrans_124 rfl (by assumption) rfl ?_
          refine wp_aload_n (pc := 125) (i := 0) dX2_readGrans_125 rfl rfl ?_
          refine wp_gfr (pc := 126) fk_X2_12 dX2_readGrans_126 rfl rfl (by decide) ?_
          refine wp_gfr (pc := 129) fk_X2_98 dX2_readGrans_129 rfl rfl (by decide) ?_
          refine wp_iload_n (pc := 132) (i := 1) dX2_readGrans_132 rfl rfl ?_
          refine wp_iconst (pc := 133) (v := nI 0) dX2_readGrans_133 rfl ?_
          first | (with_reducible show WP _ _ _ _ _ _ (_ :: Value.int (nI _) :: _) _; refine wp_iastN (pc := 134) dX2_readGrans_134 rfl (by omega) ?_) | refine wp_iast (pc := 134) dX2_readGrans_134 rfl (by assumption) rfl ?_
          refine wp_aload_n (pc := 135) (i := 0) dX2_readGrans_135 rfl rfl ?_
          refine wp_gfr (pc := 136) fk_X2_12 dX2_readGrans_136 rfl rfl (by decide) ?_
          refine wp_iload_n (pc := 139) (i := 1) dX2_readGrans_139 rfl rfl ?_
          refine wp_iconst (pc := 140) (v := nI 1) dX2_readGrans_140 rfl ?_
          first | (with_reducible show WP _ _ _ _ _ _ (Value.int (nI _) :: Value.int (nI _) :: _) _; refine wp_iaddN (pc := 141) dX2_readGrans_141 ?_) | refine wp_iadd (pc := 141) dX2_readGrans_141 ?_
          refine wp_pf (pc := 142) fp_X2_38 dX2_readGrans_142 rfl rfl rfl rfl ?_
          first | refine wp_iincN (pc := 145) (i := 1) (n := 1) dX2_readGrans_145 rfl rfl (by decide) rfl ?_ | refine wp_iinc (pc := 145) (i := 1) dX2_readGrans_145 rfl rfl rfl (by decide) rfl ?_
          dsimp only [List.set_cons_zero, List.set_cons_succ]
          refine wp_goto (pc := 148) (tgt := 2) dX2_readGrans_148 (by decide) ?_
          rotate_left
          exact rg_flt (rx_q (rx_q (rx_q (rx_q hX6 (by omega)) (by omega)) (by omega)) (by omega)) hB l4 (by omega) (by omega) (by omega) (kF _ 1 _ (by rw [hS2, rGran, p2, p3, p4, p5]) (by omega) (by omega) l4 (rx_q (rx_q (rx_q (rx_q hX6 (by omega)) (by omega)) (by omega)) (by omega)) ((((((((((((hF1.e e2).hs (by omega)).e e3).hs (by omega)).e e4).e e5).hs (by omega)).e e6).hs (by omega)).hs (by omega)).hs (by omega)).hs (by omega)))
        refine wp_aload_n (pc := 94) (i := 0) dX2_readGrans_94 rfl rfl ?_
        refine wp_gfr (pc := 95) fk_X2_12 dX2_readGrans_95 rfl rfl (by decide) ?_
        refine wp_gfr (pc := 98) fk_X2_92 dX2_readGrans_98 rfl rfl (by decide) ?_
        refine wp_iload_n (pc := 101) (i := 1) dX2_readGrans_101 rfl rfl ?_
        refine wp_aload_n (pc := 102) (i := 0) dX2_readGrans_102 rfl rfl ?_
        refine wp_iconst (pc := 103) (v := nI 0) dX2_readGrans_103 rfl ?_
        refine wp_iconst (pc := 104) (v := nI 4) dX2_readGrans_104 rfl ?_
        refine wp_cV2i (pc := 105) lk_X2_54 dX2_readGrans_105 rfl rfl rfl (sp_num hX6 hB l5 (by omega) (by omega) (fun n5 n6 p6 l6 h7 hX7 e7 => ?_) (fun w w0 w3 p6 x h7 hX7 e7 => ?_))
        rotate_left
        · first | (with_reducible show WP _ _ _ _ _ _ (_ :: Value.int (nI _) :: _) _; refine wp_iastN (pc := 108) dX2_readGrans_108 rfl (by omega) ?_) | refine wp_iast (pc := 108) dX2_readGrans_108 rfl (by assumption) rfl ?_
          refine wp_aload_n (pc := 109) (i := 0) dX2_readGrans_109 rfl rfl ?_
          refine wp_bipush (pc := 110) (v := nI 59) dX2_readGrans_110 rfl ?_
          refine wp_cV1v (pc := 112) lk_X2_50 dX2_readGrans_112 rfl rfl rfl (sp_takeSignF (rx_q hX7 (by omega)) hB l5 w3 w0 ?_)
          refine wp_aload_n (pc := 115) (i := 0) dX2_readGrans_115 rfl rfl ?_
          refine wp_gfr (pc := 116) fk_X2_12 dX2_readGrans_116 rfl rfl (by decide) ?_
          refine wp_gfr (pc := 119) fk_X2_95 dX2_readGrans_119 rfl rfl (by decide) ?_
          refine wp_iload_n (pc := 122) (i := 1) dX2_readGrans_122 rfl rfl ?_
          refine wp_iconst (pc := 123) (v := nI 0) dX2_readGrans_123 rfl ?_
          first | (with_reducible show WP _ _ _ _ _ _ (_ :: Value.int (nI _) :: _) _; refine wp_iastN (pc := 124) dX2_readGrans_124 rfl (by omega) ?_) | refine wp_iast (pc := 124) dX2_readGrans_124 rfl (by assumption) rfl ?_
          refine wp_aload_n (pc := 125) (i := 0) dX2_readGrans_125 rfl rfl ?_
          refine wp_gfr (pc := 126) fk_X2_12 dX2_readGrans_126 rfl rfl (by decide) ?_
          refine wp_gfr (pc := 129) fk_X2_98 dX2_readGrans_129 rfl rfl (by decide) ?_
          refine wp_iload_n (pc := 132) (i := 1) dX2_readGrans_132 rfl rfl ?_
          refine wp_iconst (pc := 133) (v := nI 0) dX2_readGrans_133 rfl ?_
          first | (with_reducible show WP _ _ _ _ _ _ (_ :: Value.int (nI _) :: _) _; refine wp_iastN (pc := 134) dX2_readGrans_134 rfl (by omega) ?_) | refine wp_iast (pc := 134) dX2_readGrans_134 rfl (by assumption) rfl ?_
          refine wp_aload_n (pc := 135) (i := 0) dX2_readGrans_135 rfl rfl ?_
          refine wp_gfr (pc := 136) fk_X2_12 dX2_readGrans_136 rfl rfl (by decide) ?_
          refine wp_iload_n (pc := 139) (i := 1) dX2_readGrans_139 rfl rfl ?_
          refine wp_iconst (pc := 140) (v := nI 1) dX2_readGrans_140 rfl ?_
          first | (with_reducible show WP _ _ _ _ _ _ (Value.int (nI _) :: Value.int (nI _) :: _) _; refine wp_iaddN (pc := 141) dX2_readGrans_141 ?_) | refine wp_iadd (pc := 141) dX2_readGrans_141 ?_
          refine wp_pf (pc := 142) fp_X2_38 dX2_readGrans_142 rfl rfl rfl rfl ?_
          first | refine wp_iincN (pc := 145) (i := 1) (n := 1) dX2_readGrans_145 rfl rfl (by decide) rfl ?_ | refine wp_iinc (pc := 145) (i := 1) dX2_readGrans_145 rfl rfl rfl (by decide) rfl ?_
          dsimp only [List.set_cons_zero, List.set_cons_succ]
          refine wp_goto (pc := 148) (tgt := 2) dX2_readGrans_148 (by decide) ?_
          rotate_left
          exact rg_flt (rx_q (rx_q (rx_q (rx_q hX7 (by omega)) (by omega)) (by omega)) (by omega)) hB l5 w3 w0 (by omega) (kF _ w _ (by rw [hS2, rGran, p2, p3, p4, p5, p6]) w0 w3 l5 (rx_q (rx_q (rx_q (rx_q hX7 (by omega)) (by omega)) (by omega)) (by omega)) (((((((((((((hF1.e e2).hs (by omega)).e e3).hs (by omega)).e e4).e e5).hs (by omega)).e e6).e e7).hs (by omega)).hs (by omega)).hs (by omega)).hs (by omega)))
        first | (with_reducible show WP _ _ _ _ _ _ (_ :: Value.int (nI _) :: _) _; refine wp_iastN (pc := 108) dX2_readGrans_108 rfl (by omega) ?_) | refine wp_iast (pc := 108) dX2_readGrans_108 rfl (by assumption) rfl ?_
        refine wp_aload_n (pc := 109) (i := 0) dX2_readGrans_109 rfl rfl ?_
        refine wp_bipush (pc := 110) (v := nI 59) dX2_readGrans_110 rfl ?_
        refine wp_cV1v (pc := 112) lk_X2_50 dX2_readGrans_112 rfl rfl rfl (sp_sign (rx_q hX7 (by omega)) hB l6 (by omega) (fun p0' p7 l7 h8 hX8 e8 => ?_) (fun p0' p7 h8 hX8 e8 => ?_))
        rotate_left
        · refine wp_aload_n (pc := 115) (i := 0) dX2_readGrans_115 rfl rfl ?_
          refine wp_gfr (pc := 116) fk_X2_12 dX2_readGrans_116 rfl rfl (by decide) ?_
          refine wp_gfr (pc := 119) fk_X2_95 dX2_readGrans_119 rfl rfl (by decide) ?_
          refine wp_iload_n (pc := 122) (i := 1) dX2_readGrans_122 rfl rfl ?_
          refine wp_iconst (pc := 123) (v := nI 0) dX2_readGrans_123 rfl ?_
          first | (with_reducible show WP _ _ _ _ _ _ (_ :: Value.int (nI _) :: _) _; refine wp_iastN (pc := 124) dX2_readGrans_124 rfl (by omega) ?_) | refine wp_iast (pc := 124) dX2_readGrans_124 rfl (by assumption) rfl ?_
          refine wp_aload_n (pc := 125) (i := 0) dX2_readGrans_125 rfl rfl ?_
          refine wp_gfr (pc := 126) fk_X2_12 dX2_readGrans_126 rfl rfl (by decide) ?_
          refine wp_gfr (pc := 129) fk_X2_98 dX2_readGrans_129 rfl rfl (by decide) ?_
          refine wp_iload_n (pc := 132) (i := 1) dX2_readGrans_132 rfl rfl ?_
          refine wp_iconst (pc := 133) (v := nI 0) dX2_readGrans_133 rfl ?_
          first | (with_reducible show WP _ _ _ _ _ _ (_ :: Value.int (nI _) :: _) _; refine wp_iastN (pc := 134) dX2_readGrans_134 rfl (by omega) ?_) | refine wp_iast (pc := 134) dX2_readGrans_134 rfl (by assumption) rfl ?_
          refine wp_aload_n (pc := 135) (i := 0) dX2_readGrans_135 rfl rfl ?_
          refine wp_gfr (pc := 136) fk_X2_12 dX2_readGrans_136 rfl rfl (by decide) ?_
          refine wp_iload_n (pc := 139) (i := 1) dX2_readGrans_139 rfl rfl ?_
          refine wp_iconst (pc := 140) (v := nI 1) dX2_readGrans_140 rfl ?_
          first | (with_reducible show WP _ _ _ _ _ _ (Value.int (nI _) :: Value.int (nI _) :: _) _; refine wp_iaddN (pc := 141) dX2_readGrans_141 ?_) | refine wp_iadd (pc := 141) dX2_readGrans_141 ?_
          refine wp_pf (pc := 142) fp_X2_38 dX2_readGrans_142 rfl rfl rfl rfl ?_
          first | refine wp_iincN (pc := 145) (i := 1) (n := 1) dX2_readGrans_145 rfl rfl (by decide) rfl ?_ | refine wp_iinc (pc := 145) (i := 1) dX2_readGrans_145 rfl rfl rfl (by decide) rfl ?_
          dsimp only [List.set_cons_zero, List.set_cons_succ]
          refine wp_goto (pc := 148) (tgt := 2) dX2_readGrans_148 (by decide) ?_
          rotate_left
          exact rg_flt (rx_q (rx_q (rx_q hX8 (by omega)) (by omega)) (by omega)) hB l6 (by omega) (by omega) (by omega) (kF _ 1 _ (by rw [hS2, rGran, p2, p3, p4, p5, p6, p7]) (by omega) (by omega) l6 (rx_q (rx_q (rx_q hX8 (by omega)) (by omega)) (by omega)) ((((((((((((((hF1.e e2).hs (by omega)).e e3).hs (by omega)).e e4).e e5).hs (by omega)).e e6).e e7).hs (by omega)).e e8).hs (by omega)).hs (by omega)).hs (by omega)))
        refine wp_aload_n (pc := 115) (i := 0) dX2_readGrans_115 rfl rfl ?_
        refine wp_gfr (pc := 116) fk_X2_12 dX2_readGrans_116 rfl rfl (by decide) ?_
        refine wp_gfr (pc := 119) fk_X2_95 dX2_readGrans_119 rfl rfl (by decide) ?_
        refine wp_iload_n (pc := 122) (i := 1) dX2_readGrans_122 rfl rfl ?_
        refine wp_iconst (pc := 123) (v := nI 0) dX2_readGrans_123 rfl ?_
        first | (with_reducible show WP _ _ _ _ _ _ (_ :: Value.int (nI _) :: _) _; refine wp_iastN (pc := 124) dX2_readGrans_124 rfl (by omega) ?_) | refine wp_iast (pc := 124) dX2_readGrans_124 rfl (by assumption) rfl ?_
        refine wp_aload_n (pc := 125) (i := 0) dX2_readGrans_125 rfl rfl ?_
        refine wp_gfr (pc := 126) fk_X2_12 dX2_readGrans_126 rfl rfl (by decide) ?_
        refine wp_gfr (pc := 129) fk_X2_98 dX2_readGrans_129 rfl rfl (by decide) ?_
        refine wp_iload_n (pc := 132) (i := 1) dX2_readGrans_132 rfl rfl ?_
        refine wp_iconst (pc := 133) (v := nI 0) dX2_readGrans_133 rfl ?_
        first | (with_reducible show WP _ _ _ _ _ _ (_ :: Value.int (nI _) :: _) _; refine wp_iastN (pc := 134) dX2_readGrans_134 rfl (by omega) ?_) | refine wp_iast (pc := 134) dX2_readGrans_134 rfl (by assumption) rfl ?_
        refine wp_aload_n (pc := 135) (i := 0) dX2_readGrans_135 rfl rfl ?_
        refine wp_gfr (pc := 136) fk_X2_12 dX2_readGrans_136 rfl rfl (by decide) ?_
        refine wp_iload_n (pc := 139) (i := 1) dX2_readGrans_139 rfl rfl ?_
        refine wp_iconst (pc := 140) (v := nI 1) dX2_readGrans_140 rfl ?_
        first | (with_reducible show WP _ _ _ _ _ _ (Value.int (nI _) :: Value.int (nI _) :: _) _; refine wp_iaddN (pc := 141) dX2_readGrans_141 ?_) | refine wp_iadd (pc := 141) dX2_readGrans_141 ?_
        refine wp_pf (pc := 142) fp_X2_38 dX2_readGrans_142 rfl rfl rfl rfl ?_
        first | refine wp_iincN (pc := 145) (i := 1) (n := 1) dX2_readGrans_145 rfl rfl (by decide) rfl ?_ | refine wp_iinc (pc := 145) (i := 1) dX2_readGrans_145 rfl rfl rfl (by decide) rfl ?_
        dsimp only [List.set_cons_zero, List.set_cons_succ]
        refine wp_goto (pc := 148) (tgt := 2) dX2_readGrans_148 (by decide) ?_
        rotate_left
        have F8 : ∀ q, q ≠ 13 → q ≠ 19 → q ≠ 20 → q ≠ 21 → q ≠ 22 → h8 q = h1 q := fun q q0 q1 q2 q3 q4 => by rw [e8 q q0, hs_ne q4, e7 q q0, e6 q q0, hs_ne q3, e5 q q0, e4 q q0, hs_ne q2, e3 q q0, hs_ne q1, e2 q q0]
        have A1 : h8 19 = upd (h1 19) n (nI (ko B a')) := by rw [e8 19 (by decide), hs_ne (by decide), e7 19 (by decide), e6 19 (by decide), hs_ne (by decide), e5 19 (by decide), e4 19 (by decide), hs_ne (by decide), e3 19 (by decide), hs_at, e2 19 (by decide)]
        have A2 : ∃ v, v = nv B (a' + 1) ∧ h8 20 = upd (h1 20) n (nI v) := ⟨_, rfl, by rw [e8 20 (by decide), hs_ne (by decide), e7 20 (by decide), e6 20 (by decide), hs_ne (by decide), e5 20 (by decide), e4 20 (by decide), hs_at, e3 20 (by decide), hs_ne (by decide), e2 20 (by decide)]⟩
        have A3 : h8 21 = upd (h1 21) n (nI (nv B (a' + 1 + nz B (a' + 1) + 1))) := by rw [e8 21 (by decide), hs_ne (by decide), e7 21 (by decide), e6 21 (by decide), hs_at, e5 21 (by decide), e4 21 (by decide), hs_ne (by decide), e3 21 (by decide), hs_ne (by decide), e2 21 (by decide)]
        have A4 : h8 22 = upd (h1 22) n (nI (nv B (a' + 1 + nz B (a' + 1) + 1 + nz B (a' + 1 + nz B (a' + 1) + 1) + 1))) := by rw [e8 22 (by decide), hs_at, e7 22 (by decide), e6 22 (by decide), hs_ne (by decide), e5 22 (by decide), e4 22 (by decide), hs_ne (by decide), e3 22 (by decide), hs_ne (by decide), e2 22 (by decide)]
        obtain ⟨v2, hv2, A2⟩ := A2
        subst hV1
        have wgr := TW.gr (h' := hs (hs (hs h8 23 (V 1) (nI 0)) 24 (V 1) (nI 0)) 15 3 (nI (V 1 + 1))) (s := ko B a') (r := v2) (v := nv B (a' + 1 + nz B (a' + 1) + 1)) (p := nv B (a' + 1 + nz B (a' + 1) + 1 + nz B (a' + 1 + nz B (a' + 1) + 1) + 1)) hW1 v5 hn6 (hV.2.2.2.2.2.2.2.2.2 _ hn6) (hs_same _ _ _ _) (fun i hi => by rw [hs_ix hi, hs_ne (by decide), hs_ne (by decide), F8 15 (by decide) (by decide) (by decide) (by decide) (by decide)]) (fun q q1 q2 => by rw [hs_ne (by omega), hs_ne (by omega), hs_ne (by omega), F8 q (by omega) (by omega) (by omega) (by omega) (by omega)]) (by rw [hs_ne (by decide), hs_ne (by decide), hs_ne (by decide), A1]; exact if_pos rfl) (by rw [hs_ne (by decide), hs_ne (by decide), hs_ne (by decide), A2]; exact if_pos rfl) (by rw [hs_ne (by decide), hs_ne (by decide), hs_ne (by decide), A3]; exact if_pos rfl) (by rw [hs_ne (by decide), hs_ne (by decide), hs_ne (by decide), A4]; exact if_pos rfl) (by rw [hs_ne (by decide), hs_ne (by decide)]; exact hs_same _ _ _ _) (by rw [hs_ne (by decide)]; exact hs_same _ _ _ _) (fun q i q1 q2 hi => by
          rw [hs_ne (by omega)]
          have : q = 19 ∨ q = 20 ∨ q = 21 ∨ q = 22 ∨ q = 23 ∨ q = 24 := by omega
          rcases this with rfl | rfl | rfl | rfl | rfl | rfl
          · rw [hs_ne (by decide), hs_ne (by decide), A1]; exact if_neg hi
          · rw [hs_ne (by decide), hs_ne (by decide), A2]; exact if_neg hi
          · rw [hs_ne (by decide), hs_ne (by decide), A3]; exact if_neg hi
          · rw [hs_ne (by decide), hs_ne (by decide), A4]; exact if_neg hi
          · rw [hs_ne (by decide), hs_ix hi, F8 23 (by decide) (by decide) (by decide) (by decide) (by decide)]
          · rw [hs_ix hi, hs_ne (by decide), F8 24 (by decide) (by decide) (by decide) (by decide) (by decide)])
        subst hv2
        obtain ⟨q0, -, -, -, -, q3⟩ := grT_at V (V 1) (ko B a') (nv B (a' + 1)) (nv B (a' + 1 + nz B (a' + 1) + 1)) (nv B (a' + 1 + nz B (a' + 1) + 1 + nz B (a' + 1 + nz B (a' + 1) + 1) + 1)) hn6
        exact ih (V 1 + 1) _ _ _ (by omega) q0 (by rw [q3 0 (by omega) (by omega) (by omega) (by omega) (by omega)]; exact hV0) (hV.gr hn6 ⟨p0, kl⟩ n2 (by omega) n6) l7 (rx_q (rx_q (rx_q hX8 (by omega)) (by omega)) (by omega)) wgr ((((((((((((((hF1.e e2).hs (by omega)).e e3).hs (by omega)).e e4).e e5).hs (by omega)).e e6).e e7).hs (by omega)).e e8).hs (by omega)).hs (by omega)).hs (by omega)) (by rw [hS2, rGran, p2, p3, p4, p5, p6, p7, if_neg (by omega)])
      have fin : ¬ n = 0 → ¬ a' < B.length → WP G (d + 2) mX2_readGrans (pV K) 151 [some (.ref 13), some (.int (nI n))] [] h1 := by
        intro q0 q
        refine wp_aload_n (pc := 151) (i := 0) dX2_readGrans_151 rfl rfl ?_
        refine wp_gfv (pc := 152) fk_X2_26 dX2_readGrans_152 rfl rfl (by first | with_reducible assumption | with_reducible exact hs_same _ _ _ _ | rfl) ?_
        refine wp_aload_n (pc := 155) (i := 0) dX2_readGrans_155 rfl rfl ?_
        refine wp_gfv (pc := 156) fk_X2_22 dX2_readGrans_156 rfl rfl (by first | with_reducible assumption | with_reducible exact hs_same _ _ _ _ | rfl) ?_
        first | (with_reducible show WP _ _ _ _ _ _ (Value.int (nI _) :: Value.int (nI _) :: _) _; refine wp_icmp_geN (pc := 159) (tgt := 181) dX2_readGrans_159 (by decide) (by omega) (by omega) (fun c159 => ?_) (fun c159 => ?_)) | refine wp_icmp_ge (pc := 159) (tgt := 181) dX2_readGrans_159 (by decide) (fun c159 => ?_) (fun c159 => ?_)
        refine wp_vret (pc := 181) dX2_readGrans_181 rfl ?_
        rotate_left
        rotate_left
        · exact kO h1 V a' (by rw [hS, if_neg (fun y => q0 y.1), rGrs, ko_none (List.getElem?_eq_none (by omega)), if_neg (by omega), rEnd_ok (by omega)]) hV hV0 (by omega) ha' hX1 hW1 hF1
        · exact absurd c159 (by omega)
      refine wp_iload_n (pc := 2) (i := 1) dX2_readGrans_2 rfl rfl ?_
      refine wp_bipush (pc := 3) (v := nI 6) dX2_readGrans_3 rfl ?_
      first | (with_reducible show WP _ _ _ _ _ _ (Value.int (nI _) :: Value.int (nI _) :: _) _; refine wp_icmp_geN (pc := 5) (tgt := 151) dX2_readGrans_5 (by decide) (by omega) (by omega) (fun c5 => ?_) (fun c5 => ?_)) | refine wp_icmp_ge (pc := 5) (tgt := 151) dX2_readGrans_5 (by decide) (fun c5 => ?_) (fun c5 => ?_)
      rotate_left
      refine wp_aload_n (pc := 8) (i := 0) dX2_readGrans_8 rfl rfl ?_
      refine wp_gfv (pc := 9) fk_X2_29 dX2_readGrans_9 rfl rfl (by first | with_reducible assumption | with_reducible exact hs_same _ _ _ _ | rfl) ?_
      first | (with_reducible show WP _ _ _ _ _ _ (Value.int (bI _) :: _) _; refine wp_if_neB (pc := 12) (tgt := 151) dX2_readGrans_12 (by decide) (fun c12 => ?_) (fun c12 => ?_)) | (with_reducible show WP _ _ _ _ _ _ (Value.int (nI _) :: _) _; refine wp_if_neN (pc := 12) (tgt := 151) dX2_readGrans_12 (by decide) (by omega) (fun c12 => ?_) (fun c12 => ?_)) | refine wp_if_ne (pc := 12) (tgt := 151) dX2_readGrans_12 (by decide) (fun c12 => ?_) (fun c12 => ?_)
      rotate_left
      refine wp_iload_n (pc := 15) (i := 1) dX2_readGrans_15 rfl rfl ?_
      first | (with_reducible show WP _ _ _ _ _ _ (Value.int (bI _) :: _) _; refine wp_if_eqB (pc := 16) (tgt := 30) dX2_readGrans_16 (by decide) (fun c16 => ?_) (fun c16 => ?_)) | (with_reducible show WP _ _ _ _ _ _ (Value.int (nI _) :: _) _; refine wp_if_eqN (pc := 16) (tgt := 30) dX2_readGrans_16 (by decide) (by omega) (fun c16 => ?_) (fun c16 => ?_)) | refine wp_if_eq (pc := 16) (tgt := 30) dX2_readGrans_16 (by decide) (fun c16 => ?_) (fun c16 => ?_)
      rotate_left
      refine wp_aload_n (pc := 19) (i := 0) dX2_readGrans_19 rfl rfl ?_
      refine wp_gfv (pc := 20) fk_X2_26 dX2_readGrans_20 rfl rfl (by first | with_reducible assumption | with_reducible exact hs_same _ _ _ _ | rfl) ?_
      refine wp_aload_n (pc := 23) (i := 0) dX2_readGrans_23 rfl rfl ?_
      refine wp_gfv (pc := 24) fk_X2_22 dX2_readGrans_24 rfl rfl (by first | with_reducible assumption | with_reducible exact hs_same _ _ _ _ | rfl) ?_
      first | (with_reducible show WP _ _ _ _ _ _ (Value.int (nI _) :: Value.int (nI _) :: _) _; refine wp_icmp_geN (pc := 27) (tgt := 151) dX2_readGrans_27 (by decide) (by omega) (by omega) (fun c27 => ?_) (fun c27 => ?_)) | refine wp_icmp_ge (pc := 27) (tgt := 151) dX2_readGrans_27 (by decide) (fun c27 => ?_) (fun c27 => ?_)
      rotate_left
      rotate_left
      · exact absurd hnm (by omega)
      · exact absurd rfl c12
      · exact body (Or.inr c16)
      · exact fin c16 (by omega)
      · exact body (Or.inl (by omega))
  refine wp_iconst (pc := 0) (v := nI 0) dX2_readGrans_0 rfl ?_
  refine wp_istore_n (pc := 1) (i := 1) dX2_readGrans_1 rfl rfl (by decide) rfl ?_
  dsimp only [List.set_cons_zero, List.set_cons_succ]
  rotate_left
  refine loop 6 0 T a h (by omega) hT1 hT0 hP ha hX hW (FD.rf h) ?_
  unfold rGrs1
  by_cases q : 0 < ko B a
  · rw [if_pos q, if_neg (fun y => y.2 q)]
  · rw [if_neg q, if_pos ⟨rfl, q⟩]
end DREAD5
