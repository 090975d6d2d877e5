/-! the one who makes a child whole soonest -/
def snU (T : Tn) (c : Nat) : Nat → Option (Nat × Nat)
  | 0 => none
  | g + 1 => match whl (up T (32 + g) c) c 0 61, snU T c g with
    | none, r => r
    | some v, none => some (g, v)
    | some v, some (a, b) => if v < b then some (g, v) else some (a, b)
def sG : Option (Nat × Nat) → Int32
  | none => kNONE
  | some (g, _) => nI g
def sD : Option (Nat × Nat) → Int32
  | none => kNONE
  | some (_, v) => nI v
def sD6 : Option (Nat × Nat) → Int32
  | none => nI 61
  | some (_, v) => nI v
theorem whl_lt (T : Tn) (c : Nat) : ∀ m i v, whl T c i m = some v → v < i + m := by
  intro m
  induction m generalizing T with
  | zero => intro i v q; cases q
  | succ m ih =>
    intro i v q
    unfold whl at q
    split at q
    · cases q; omega
    · have := ih _ _ _ q; omega
theorem snU_lt {T : Tn} {c : Nat} : ∀ g a b, snU T c g = some (a, b) → a < g ∧ b < 61 := by
  intro g
  induction g with
  | zero => intro a b q; cases q
  | succ g ih =>
    intro a b q
    unfold snU at q
    cases hw : whl (up T (32 + g) c) c 0 61 with
    | none => rw [hw] at q; have := ih a b q; omega
    | some v =>
      have hv := whl_lt _ _ _ _ _ hw
      rw [hw] at q
      cases hs : snU T c g with
      | none => rw [hs] at q; cases q; omega
      | some p =>
        obtain ⟨a', b'⟩ := p
        have := ih a' b' hs
        rw [hs] at q
        dsimp only at q
        split at q
        · cases q; omega
        · cases q; omega
def fSoon (T : Tn) (x w : Int32) : Int32 := if inN x (T 0) && btw w 0 1 then (if w = nI 0 then sG (snU T x.toNatClampNeg (T 1)) else sD (snU T x.toNatClampNeg (T 1))) else kBAD
section DSOON
variable {G : Gt} {d : Nat} {h : Hp} {T : Tn}
theorem okp_fir {g c : Nat} (hO : OKT T) (hg : g < T 1) (hc : c < T 0) : OKT (up T (32 + g) c) ∧ up T (32 + g) c 0 = T 0 ∧ up T (32 + g) c 1 = T 1 ∧ up T (32 + g) c 4 = T 4 := ⟨okt_fir hO hg hc, up_ne (by omega), up_ne (by omega), up_ne (by omega)⟩
theorem sd_soon {x w : Int32} {K : Int32 → Hp → Prop} (hW : TW h 27 T) (hO : OKT T) (hz : 0 < T 0 → 0 < T 1) (hd : T 4 ≤ 999) (k : ∀ h', SC h h' → K (fSoon T x w) h') : Call G (d + 5) mX6_soon [.ref 0, .int x, .int w] h (pI K) := by
  obtain ⟨o0, o1, o2, o3, o4, o5, o6, o7, o8⟩ := id hO
  refine Call.of (M := mX6_soon) (n := 4) (by decide +kernel) rfl ?_
  show WP _ _ _ _ 0 [some (.ref 0), some (.int x), some (.int w), none, none, none, none] [] _
  refine wp_aload_n (pc := 0) (i := 0) dX6_soon_0 rfl rfl ?_
  refine wp_gfr (pc := 1) fk_X6_26 dX6_soon_1 rfl rfl (by decide) ?_
  refine wp_iload_n (pc := 4) (i := 1) dX6_soon_4 rfl rfl ?_
  refine wp_cV1i (pc := 5) lk_X6_174 dX6_soon_5 rfl rfl rfl (sp_hasChild isT_27 hW hO ?_)
  first | (with_reducible show WP _ _ _ _ _ _ (Value.int (bI _) :: _) _; refine wp_if_eqB (pc := 8) (tgt := 20) dX6_soon_8 (by decide) (fun c8 => ?_) (fun c8 => ?_)) | (with_reducible show WP _ _ _ _ _ _ (Value.int (nI _) :: _) _; refine wp_if_eqN (pc := 8) (tgt := 20) dX6_soon_8 (by decide) (by omega) (fun c8 => ?_) (fun c8 => ?_)) | refine wp_if_eq (pc := 8) (tgt := 20) dX6_soon_8 (by decide) (fun c8 => ?_) (fun c8 => ?_)
  refine wp_ldc (pc := 20) kn_X6_78 dX6_soon_20 ?_
  refine wp_iret (pc := 22) dX6_soon_22 rfl ?_
  rotate_left
  refine wp_iload_n (pc := 11) (i := 2) dX6_soon_11 rfl rfl ?_
  refine wp_iconst (pc := 12) (v := nI 0) dX6_soon_12 rfl ?_
  refine wp_iconst (pc := 13) (v := nI 1) dX6_soon_13 rfl ?_
  refine wp_cS3i (pc := 14) lk_X6_74 dX6_soon_14 rfl (sp_btw (by decide) (by decide) ?_)
  first | (with_reducible show WP _ _ _ _ _ _ (Value.int (bI _) :: _) _; refine wp_if_neB (pc := 17) (tgt := 23) dX6_soon_17 (by decide) (fun c17 => ?_) (fun c17 => ?_)) | (with_reducible show WP _ _ _ _ _ _ (Value.int (nI _) :: _) _; refine wp_if_neN (pc := 17) (tgt := 23) dX6_soon_17 (by decide) (by omega) (fun c17 => ?_) (fun c17 => ?_)) | refine wp_if_ne (pc := 17) (tgt := 23) dX6_soon_17 (by decide) (fun c17 => ?_) (fun c17 => ?_)
  rotate_left
  refine wp_ldc (pc := 20) kn_X6_78 dX6_soon_20 ?_
  refine wp_iret (pc := 22) dX6_soon_22 rfl ?_
  rotate_left
  · rw [fSoon, c8] at k; exact k h (SC.rf h)
  rotate_left
  · rw [fSoon, c8, c17] at k; exact k h (SC.rf h)
  rw [fSoon, c8, c17] at k
  obtain ⟨c, hc, rfl⟩ := inN_t (by omega) c8
  obtain ⟨m, -, hm, rfl⟩ := btw_t (by decide) c17
  rw [nI_clamp (by omega)] at k
  have em : nI m = nI 0 ↔ m = 0 := nI_eq (by omega) (by decide)
  have loop : ∀ j i h1 L6, i + j = T 1 → TW h1 27 T → PG h1 51 T → SC h h1 → WP G (d + 5) mX6_soon (pI K) 44 [some (.ref 0), some (.int (nI c)), some (.int (nI m)), some (.int (sG (snU T c i))), some (.int (sD6 (snU T c i))), some (.int (nI i)), L6] [] h1 := by
    intro j
    induction j with
    | zero =>
      intro i h1 L6 hij hW1 hP1 hs1
      have kk := k h1 hs1
      rw [show T 1 = i by omega] at kk
      have e3 : h1 27 3 = nI (T 1) := hW1.2.2.2.1
      cases hs : snU T c i with
      | none =>
        rw [hs] at kk
        have kk : K kNONE h1 := by by_cases q : nI m = nI 0; · rw [if_pos q] at kk; exact kk
                                   · rw [if_neg q] at kk; exact kk
        rw [show sG none = kNONE from rfl]
        refine wp_iload (pc := 44) (i := 5) dX6_soon_44 rfl ?_
        refine wp_aload_n (pc := 46) (i := 0) dX6_soon_46 rfl rfl ?_
        refine wp_gfr (pc := 47) fk_X6_26 dX6_soon_47 rfl rfl (by decide) ?_
        refine wp_gfv (pc := 50) fk_X6_143 dX6_soon_50 rfl rfl (by first | with_reducible assumption | with_reducible exact hs_same _ _ _ _ | rfl) ?_
        first | (with_reducible show WP _ _ _ _ _ _ (Value.int (nI _) :: Value.int (nI _) :: _) _; refine wp_icmp_geN (pc := 53) (tgt := 115) dX6_soon_53 (by decide) (by omega) (by omega) (fun c53 => ?_) (fun c53 => ?_)) | refine wp_icmp_ge (pc := 53) (tgt := 115) dX6_soon_53 (by decide) (fun c53 => ?_) (fun c53 => ?_)
        refine wp_iload_n (pc := 115) (i := 2) dX6_soon_115 rfl rfl ?_
        first | (with_reducible show WP _ _ _ _ _ _ (Value.int (bI _) :: _) _; refine wp_if_eqB (pc := 116) (tgt := 125) dX6_soon_116 (by decide) (fun c116 => ?_) (fun c116 => ?_)) | (with_reducible show WP _ _ _ _ _ _ (Value.int (nI _) :: _) _; refine wp_if_eqN (pc := 116) (tgt := 125) dX6_soon_116 (by decide) (by omega) (fun c116 => ?_) (fun c116 => ?_)) | refine wp_if_eq (pc := 116) (tgt := 125) dX6_soon_116 (by decide) (fun c116 => ?_) (fun c116 => ?_)
        refine wp_iload_n (pc := 125) (i := 3) dX6_soon_125 rfl rfl ?_
        refine wp_goto (pc := 126) (tgt := 131) dX6_soon_126 (by decide) ?_
        refine wp_iret (pc := 131) dX6_soon_131 rfl ?_
        rotate_left
        refine wp_iload_n (pc := 119) (i := 3) dX6_soon_119 rfl rfl ?_
        refine wp_ldc (pc := 120) kn_X6_222 dX6_soon_120 ?_
        first | (with_reducible show WP _ _ _ _ _ _ (Value.int (nI _) :: Value.int (nI _) :: _) _; refine wp_icmp_neN (pc := 122) (tgt := 129) dX6_soon_122 (by decide) (by omega) (by omega) (fun c122 => ?_) (fun c122 => ?_)) | refine wp_icmp_ne (pc := 122) (tgt := 129) dX6_soon_122 (by decide) (fun c122 => ?_) (fun c122 => ?_)
        refine wp_iload (pc := 129) (i := 4) dX6_soon_129 rfl ?_
        refine wp_iret (pc := 131) dX6_soon_131 rfl ?_
        rotate_left
        refine wp_iload_n (pc := 125) (i := 3) dX6_soon_125 rfl rfl ?_
        refine wp_goto (pc := 126) (tgt := 131) dX6_soon_126 (by decide) ?_
        refine wp_iret (pc := 131) dX6_soon_131 rfl ?_
        rotate_left
        rotate_left
        · exact kk
        · exact absurd rfl c122
        · exact kk
        · exact absurd hij (by omega)
      | some p =>
        obtain ⟨a, b⟩ := p
        have hab := snU_lt _ _ _ hs
        rw [hs] at kk
        rw [show sG (some (a, b)) = nI a from rfl, show sD6 (some (a, b)) = nI b from rfl]
        refine wp_iload (pc := 44) (i := 5) dX6_soon_44 rfl ?_
        refine wp_aload_n (pc := 46) (i := 0) dX6_soon_46 rfl rfl ?_
        refine wp_gfr (pc := 47) fk_X6_26 dX6_soon_47 rfl rfl (by decide) ?_
        refine wp_gfv (pc := 50) fk_X6_143 dX6_soon_50 rfl rfl (by first | with_reducible assumption | with_reducible exact hs_same _ _ _ _ | rfl) ?_
        first | (with_reducible show WP _ _ _ _ _ _ (Value.int (nI _) :: Value.int (nI _) :: _) _; refine wp_icmp_geN (pc := 53) (tgt := 115) dX6_soon_53 (by decide) (by omega) (by omega) (fun c53 => ?_) (fun c53 => ?_)) | refine wp_icmp_ge (pc := 53) (tgt := 115) dX6_soon_53 (by decide) (fun c53 => ?_) (fun c53 => ?_)
        refine wp_iload_n (pc := 115) (i := 2) dX6_soon_115 rfl rfl ?_
        first | (with_reducible show WP _ _ _ _ _ _ (Value.int (bI _) :: _) _; refine wp_if_eqB (pc := 116) (tgt := 125) dX6_soon_116 (by decide) (fun c116 => ?_) (fun c116 => ?_)) | (with_reducible show WP _ _ _ _ _ _ (Value.int (nI _) :: _) _; refine wp_if_eqN (pc := 116) (tgt := 125) dX6_soon_116 (by decide) (by omega) (fun c116 => ?_) (fun c116 => ?_)) | refine wp_if_eq (pc := 116) (tgt := 125) dX6_soon_116 (by decide) (fun c116 => ?_) (fun c116 => ?_)
        refine wp_iload_n (pc := 125) (i := 3) dX6_soon_125 rfl rfl ?_
        refine wp_goto (pc := 126) (tgt := 131) dX6_soon_126 (by decide) ?_
        refine wp_iret (pc := 131) dX6_soon_131 rfl ?_
        rotate_left
        refine wp_iload_n (pc := 119) (i := 3) dX6_soon_119 rfl rfl ?_
        refine wp_ldc (pc := 120) kn_X6_222 dX6_soon_120 ?_
        first | (with_reducible show WP _ _ _ _ _ _ (Value.int (nI _) :: Value.int (nI _) :: _) _; refine wp_icmp_neN (pc := 122) (tgt := 129) dX6_soon_122 (by decide) (by omega) (by omega) (fun c122 => ?_) (fun c122 => ?_)) | refine wp_icmp_ne (pc := 122) (tgt := 129) dX6_soon_122 (by decide) (fun c122 => ?_) (fun c122 => ?_)
        refine wp_iload (pc := 129) (i := 4) dX6_soon_129 rfl ?_
        refine wp_iret (pc := 131) dX6_soon_131 rfl ?_
        rotate_left
        refine wp_iload_n (pc := 125) (i := 3) dX6_soon_125 rfl rfl ?_
        refine wp_goto (pc := 126) (tgt := 131) dX6_soon_126 (by decide) ?_
        refine wp_iret (pc := 131) dX6_soon_131 rfl ?_
        rotate_left
        rotate_left
        · rw [if_pos (em.mpr c116)] at kk; exact kk
        · rw [if_neg (fun q => c116 (em.mp q))] at kk; exact kk
        · exact absurd c122 (nI_none (by omega))
        · exact absurd hij (by omega)
    | succ j ih =>
      intro i h1 L6 hij hW1 hP1 hs1
      have e3 : h1 27 3 = nI (T 1) := hW1.2.2.2.1
      have hgi : i < T 1 := by omega
      obtain ⟨a1, a2, a3, a4⟩ := okp_fir hO hgi hc
      refine wp_iload (pc := 44) (i := 5) dX6_soon_44 rfl ?_
      refine wp_aload_n (pc := 46) (i := 0) dX6_soon_46 rfl rfl ?_
      refine wp_gfr (pc := 47) fk_X6_26 dX6_soon_47 rfl rfl (by decide) ?_
      refine wp_gfv (pc := 50) fk_X6_143 dX6_soon_50 rfl rfl (by first | with_reducible assumption | with_reducible exact hs_same _ _ _ _ | rfl) ?_
      first | (with_reducible show WP _ _ _ _ _ _ (Value.int (nI _) :: Value.int (nI _) :: _) _; refine wp_icmp_geN (pc := 53) (tgt := 115) dX6_soon_53 (by decide) (by omega) (by omega) (fun c53 => ?_) (fun c53 => ?_)) | refine wp_icmp_ge (pc := 53) (tgt := 115) dX6_soon_53 (by decide) (fun c53 => ?_) (fun c53 => ?_)
      rotate_left
      refine wp_aload_n (pc := 56) (i := 0) dX6_soon_56 rfl rfl ?_
      refine wp_gfr (pc := 57) fk_X6_30 dX6_soon_57 rfl rfl (by decide) ?_
      refine wp_aload_n (pc := 60) (i := 0) dX6_soon_60 rfl rfl ?_
      refine wp_gfr (pc := 61) fk_X6_33 dX6_soon_61 rfl rfl (by decide) ?_
      refine wp_cV1v (pc := 64) lk_X6_137 dX6_soon_64 rfl rfl rfl (sp_load isT_39 rfl (by omega) (fun h2 s2 => ?_))
      rotate_left
      · exact absurd hij (by omega)
      have hW2 : TW h2 39 T := s2.tw hP1 hO
      have hW3 := hW2.fir (v := c) hO hgi
      refine wp_aload_n (pc := 67) (i := 0) dX6_soon_67 rfl rfl ?_
      refine wp_gfr (pc := 68) fk_X6_30 dX6_soon_68 rfl rfl (by decide) ?_
      refine wp_gfr (pc := 71) fk_X6_177 dX6_soon_71 rfl rfl (by decide) ?_
      refine wp_iload (pc := 74) (i := 5) dX6_soon_74 rfl ?_
      refine wp_iload_n (pc := 76) (i := 1) dX6_soon_76 rfl rfl ?_
      first | (with_reducible show WP _ _ _ _ _ _ (_ :: Value.int (nI _) :: _) _; refine wp_iastN (pc := 77) dX6_soon_77 rfl (by omega) ?_) | refine wp_iast (pc := 77) dX6_soon_77 rfl (by assumption) rfl ?_
      refine wp_aload_n (pc := 78) (i := 0) dX6_soon_78 rfl rfl ?_
      refine wp_gfr (pc := 79) fk_X6_30 dX6_soon_79 rfl rfl (by decide) ?_
      refine wp_iload_n (pc := 82) (i := 1) dX6_soon_82 rfl rfl ?_
      refine wp_cV1i (pc := 83) lk_X6_219 dX6_soon_83 rfl rfl rfl (sp_daysToWhole isT_39 hW3 a1 (by omega) (by omega) (by omega) (fun h3 hF3 => ?_))
      rotate_left
      have f3 : ∀ a, a < 39 ∨ 50 < a → h3 a = h1 a := fun a ha => by rw [hF3 a (by omega), hs_ne (by omega)]; exact s2.1 a (by omega)
      have hW4 : TW h3 27 T := hW1.cg2 (fun q _ _ => f3 q (by omega))
      have hP4 : PG h3 51 T := hP1.cg (f3 51 (by omega))
      have hs4 : SC h h3 := hs1.tr (fun a ha => f3 a (by omega))
      have fin := fun L6 => ih (i + 1) h3 L6 (by omega) hW4 hP4 hs4
      unfold snU at fin
      cases hw : whl (up T (32 + i) c) c 0 61 with
      | none =>
        rw [hw] at fin
        rw [show oI none = kNONE from rfl]
        refine wp_istore (pc := 86) (i := 6) dX6_soon_86 rfl (by decide) rfl ?_
        dsimp only [List.set_cons_zero, List.set_cons_succ]
        refine wp_iload (pc := 88) (i := 6) dX6_soon_88 rfl ?_
        refine wp_ldc (pc := 90) kn_X6_222 dX6_soon_90 ?_
        first | (with_reducible show WP _ _ _ _ _ _ (Value.int (nI _) :: Value.int (nI _) :: _) _; refine wp_icmp_eqN (pc := 92) (tgt := 109) dX6_soon_92 (by decide) (by omega) (by omega) (fun c92 => ?_) (fun c92 => ?_)) | refine wp_icmp_eq (pc := 92) (tgt := 109) dX6_soon_92 (by decide) (fun c92 => ?_) (fun c92 => ?_)
        first | refine wp_iincN (pc := 109) (i := 5) (n := 1) dX6_soon_109 rfl rfl (by decide) rfl ?_ | refine wp_iinc (pc := 109) (i := 5) dX6_soon_109 rfl rfl rfl (by decide) rfl ?_
        dsimp only [List.set_cons_zero, List.set_cons_succ]
        refine wp_goto (pc := 112) (tgt := 44) dX6_soon_112 (by decide) ?_
        rotate_left
        rotate_left
        · exact fin _
        · exact absurd rfl c92
      | some v =>
        have hv := whl_lt _ _ _ _ _ hw
        rw [hw] at fin
        rw [show oI (some v) = nI v from rfl]
        cases hs : snU T c i with
        | none =>
          rw [hs] at fin
          rw [show sD6 none = nI 61 from rfl]
          refine wp_istore (pc := 86) (i := 6) dX6_soon_86 rfl (by decide) rfl ?_
          dsimp only [List.set_cons_zero, List.set_cons_succ]
          refine wp_iload (pc := 88) (i := 6) dX6_soon_88 rfl ?_
          refine wp_ldc (pc := 90) kn_X6_222 dX6_soon_90 ?_
          first | (with_reducible show WP _ _ _ _ _ _ (Value.int (nI _) :: Value.int (nI _) :: _) _; refine wp_icmp_eqN (pc := 92) (tgt := 109) dX6_soon_92 (by decide) (by omega) (by omega) (fun c92 => ?_) (fun c92 => ?_)) | refine wp_icmp_eq (pc := 92) (tgt := 109) dX6_soon_92 (by decide) (fun c92 => ?_) (fun c92 => ?_)
          first | refine wp_iincN (pc := 109) (i := 5) (n := 1) dX6_soon_109 rfl rfl (by decide) rfl ?_ | refine wp_iinc (pc := 109) (i := 5) dX6_soon_109 rfl rfl rfl (by decide) rfl ?_
          dsimp only [List.set_cons_zero, List.set_cons_succ]
          refine wp_goto (pc := 112) (tgt := 44) dX6_soon_112 (by decide) ?_
          rotate_left
          refine wp_iload (pc := 95) (i := 6) dX6_soon_95 rfl ?_
          refine wp_iload (pc := 97) (i := 4) dX6_soon_97 rfl ?_
          first | (with_reducible show WP _ _ _ _ _ _ (Value.int (nI _) :: Value.int (nI _) :: _) _; refine wp_icmp_geN (pc := 99) (tgt := 109) dX6_soon_99 (by decide) (by omega) (by omega) (fun c99 => ?_) (fun c99 => ?_)) | refine wp_icmp_ge (pc := 99) (tgt := 109) dX6_soon_99 (by decide) (fun c99 => ?_) (fun c99 => ?_)
          first | refine wp_iincN (pc := 109) (i := 5) (n := 1) dX6_soon_109 rfl rfl (by decide) rfl ?_ | refine wp_iinc (pc := 109) (i := 5) dX6_soon_109 rfl rfl rfl (by decide) rfl ?_
          dsimp only [List.set_cons_zero, List.set_cons_succ]
          refine wp_goto (pc := 112) (tgt := 44) dX6_soon_112 (by decide) ?_
          rotate_left
          refine wp_iload (pc := 102) (i := 5) dX6_soon_102 rfl ?_
          refine wp_istore_n (pc := 104) (i := 3) dX6_soon_104 rfl rfl (by decide) rfl ?_
          dsimp only [List.set_cons_zero, List.set_cons_succ]
          refine wp_iload (pc := 105) (i := 6) dX6_soon_105 rfl ?_
          refine wp_istore (pc := 107) (i := 4) dX6_soon_107 rfl (by decide) rfl ?_
          dsimp only [List.set_cons_zero, List.set_cons_succ]
          first | refine wp_iincN (pc := 109) (i := 5) (n := 1) dX6_soon_109 rfl rfl (by decide) rfl ?_ | refine wp_iinc (pc := 109) (i := 5) dX6_soon_109 rfl rfl rfl (by decide) rfl ?_
          dsimp only [List.set_cons_zero, List.set_cons_succ]
          refine wp_goto (pc := 112) (tgt := 44) dX6_soon_112 (by decide) ?_
          rotate_left
          · exact absurd c92 (nI_none (by omega))
          · exact absurd c99 (by omega)
          · exact fin _
        | some p =>
          obtain ⟨a, b⟩ := p
          have hab := snU_lt _ _ _ hs
          rw [hs] at fin
          rw [show sD6 (some (a, b)) = nI b from rfl]
          dsimp only at fin
          refine wp_istore (pc := 86) (i := 6) dX6_soon_86 rfl (by decide) rfl ?_
          dsimp only [List.set_cons_zero, List.set_cons_succ]
          refine wp_iload (pc := 88) (i := 6) dX6_soon_88 rfl ?_
          refine wp_ldc (pc := 90) kn_X6_222 dX6_soon_90 ?_
          first | (with_reducible show WP _ _ _ _ _ _ (Value.int (nI _) :: Value.int (nI _) :: _) _; refine wp_icmp_eqN (pc := 92) (tgt := 109) dX6_soon_92 (by decide) (by omega) (by omega) (fun c92 => ?_) (fun c92 => ?_)) | refine wp_icmp_eq (pc := 92) (tgt := 109) dX6_soon_92 (by decide) (fun c92 => ?_) (fun c92 => ?_)
          first | refine wp_iincN (pc := 109) (i := 5) (n := 1) dX6_soon_109 rfl rfl (by decide) rfl ?_ | refine wp_iinc (pc := 109) (i := 5) dX6_soon_109 rfl rfl rfl (by decide) rfl ?_
          dsimp only [List.set_cons_zero, List.set_cons_succ]
          refine wp_goto (pc := 112) (tgt := 44) dX6_soon_112 (by decide) ?_
          rotate_left
          refine wp_iload (pc := 95) (i := 6) dX6_soon_95 rfl ?_
          refine wp_iload (pc := 97) (i := 4) dX6_soon_97 rfl ?_
          first | (with_reducible show WP _ _ _ _ _ _ (Value.int (nI _) :: Value.int (nI _) :: _) _; refine wp_icmp_geN (pc := 99) (tgt := 109) dX6_soon_99 (by decide) (by omega) (by omega) (fun c99 => ?_) (fun c99 => ?_)) | refine wp_icmp_ge (pc := 99) (tgt := 109) dX6_soon_99 (by decide) (fun c99 => ?_) (fun c99 => ?_)
          first | refine wp_iincN (pc := 109) (i := 5) (n := 1) dX6_soon_109 rfl rfl (by decide) rfl ?_ | refine wp_iinc (pc := 109) (i := 5) dX6_soon_109 rfl rfl rfl (by decide) rfl ?_
          dsimp only [List.set_cons_zero, List.set_cons_succ]
          refine wp_goto (pc := 112) (tgt := 44) dX6_soon_112 (by decide) ?_
          rotate_left
          refine wp_iload (pc := 102) (i := 5) dX6_soon_102 rfl ?_
          refine wp_istore_n (pc := 104) (i := 3) dX6_soon_104 rfl rfl (by decide) rfl ?_
          dsimp only [List.set_cons_zero, List.set_cons_succ]
          refine wp_iload (pc := 105) (i := 6) dX6_soon_105 rfl ?_
          refine wp_istore (pc := 107) (i := 4) dX6_soon_107 rfl (by decide) rfl ?_
          dsimp only [List.set_cons_zero, List.set_cons_succ]
          first | refine wp_iincN (pc := 109) (i := 5) (n := 1) dX6_soon_109 rfl rfl (by decide) rfl ?_ | refine wp_iinc (pc := 109) (i := 5) dX6_soon_109 rfl rfl rfl (by decide) rfl ?_
          dsimp only [List.set_cons_zero, List.set_cons_succ]
          refine wp_goto (pc := 112) (tgt := 44) dX6_soon_112 (by decide) ?_
          rotate_left
          · exact absurd c92 (nI_none (by omega))
          · rw [if_neg (by omega)] at fin; exact fin _
          · rw [if_pos (by omega)] at fin; exact fin _
  refine wp_ldc (pc := 23) kn_X6_222 dX6_soon_23 ?_
  refine wp_istore_n (pc := 25) (i := 3) dX6_soon_25 rfl rfl (by decide) rfl ?_
  dsimp only [List.set_cons_zero, List.set_cons_succ]
  refine wp_bipush (pc := 26) (v := nI 61) dX6_soon_26 rfl ?_
  refine wp_istore (pc := 28) (i := 4) dX6_soon_28 rfl (by decide) rfl ?_
  dsimp only [List.set_cons_zero, List.set_cons_succ]
  refine wp_aload_n (pc := 30) (i := 0) dX6_soon_30 rfl rfl ?_
  refine wp_gfr (pc := 31) fk_X6_26 dX6_soon_31 rfl rfl (by decide) ?_
  refine wp_aload_n (pc := 34) (i := 0) dX6_soon_34 rfl rfl ?_
  refine wp_gfr (pc := 35) fk_X6_33 dX6_soon_35 rfl rfl (by decide) ?_
  refine wp_cV1v (pc := 38) lk_X6_133 dX6_soon_38 rfl rfl rfl (sp_save isT_27 rfl (by omega) (fun h1 s1 => ?_))
  refine wp_iconst (pc := 41) (v := nI 0) dX6_soon_41 rfl ?_
  refine wp_istore (pc := 42) (i := 5) dX6_soon_42 rfl (by decide) rfl ?_
  dsimp only [List.set_cons_zero, List.set_cons_succ]
  rotate_left
  exact loop (T 1) 0 h1 _ (by omega) (hW.cg2 (fun q _ _ => s1.1 q (by omega))) (s1.pg hW hO) (fun a ha => s1.1 a (by omega))
end DSOON
