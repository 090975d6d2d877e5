/-! a town saved into a row, and read back -/
def SV (h h' : Hp) (t p : Nat) : Prop := (∀ a, a ≠ p → h' a = h a) ∧ (h' p 0 = h t 0 ∧ h' p 1 = h t 1 ∧ h' p 2 = h t 2 ∧ h' p 3 = h t 3 ∧ h' p 4 = h t 4) ∧ (∀ c, c < 5 → h' p (5 + 3 * c) = h (t + 1) c ∧ h' p (5 + 3 * c + 1) = h (t + 2) c ∧ h' p (5 + 3 * c + 2) = h (t + 3) c) ∧
  (∀ g, g < 6 → h' p (20 + 6 * g) = h (t + 4) g ∧ h' p (20 + 6 * g + 1) = h (t + 5) g ∧ h' p (20 + 6 * g + 2) = h (t + 6) g ∧ h' p (20 + 6 * g + 3) = h (t + 7) g ∧ h' p (20 + 6 * g + 4) = h (t + 8) g ∧ h' p (20 + 6 * g + 5) = h (t + 9) g)
def LO (h h' : Hp) (t p : Nat) : Prop := (∀ a, a < t ∨ t + 9 < a → h' a = h a) ∧ (h' t 0 = h p 0 ∧ h' t 1 = h p 1 ∧ h' t 2 = h p 2 ∧ h' t 3 = h p 3 ∧ h' t 4 = h p 4) ∧ (∀ c, c < 5 → h' (t + 1) c = h p (5 + 3 * c) ∧ h' (t + 2) c = h p (5 + 3 * c + 1) ∧ h' (t + 3) c = h p (5 + 3 * c + 2)) ∧
  (∀ g, g < 6 → h' (t + 4) g = h p (20 + 6 * g) ∧ h' (t + 5) g = h p (20 + 6 * g + 1) ∧ h' (t + 6) g = h p (20 + 6 * g + 2) ∧ h' (t + 7) g = h p (20 + 6 * g + 3) ∧ h' (t + 8) g = h p (20 + 6 * g + 4) ∧ h' (t + 9) g = h p (20 + 6 * g + 5))
/-- row p holds the town T -/
def PG (h : Hp) (p : Nat) (T : Tn) : Prop := (h p 0 = nI (T 2) ∧ h p 1 = nI (T 3) ∧ h p 2 = nI (T 0) ∧ h p 3 = nI (T 1) ∧ h p 4 = nI (T 4)) ∧ (∀ c, c < T 0 → h p (5 + 3 * c) = nI (T (5 + c)) ∧ h p (5 + 3 * c + 1) = nI (T (10 + c)) ∧ h p (5 + 3 * c + 2) = nI (T (15 + c))) ∧
  (∀ g, g < T 1 → h p (20 + 6 * g) = nI (T (20 + g)) ∧ h p (20 + 6 * g + 1) = nI (T (26 + g)) ∧ h p (20 + 6 * g + 2) = nI (T (32 + g)) ∧ h p (20 + 6 * g + 3) = nI (T (38 + g)) ∧ h p (20 + 6 * g + 4) = nI (T (44 + g)) ∧ h p (20 + 6 * g + 5) = nI (T (50 + g)))
section SAVE
variable {G : Gt} {d : Nat} {h : Hp} {t p : Nat} {T : Tn}
theorem PG.cg {h' : Hp} (hP : PG h p T) (e : h' p = h p) : PG h' p T := by unfold PG; rw [e]; exact hP
theorem SV.pg {h' : Hp} (s : SV h h' t p) (hW : TW h t T) (hO : OKT T) : PG h' p T := by
  obtain ⟨-, ⟨b0, b1, b2, b3, b4⟩, sc, sg⟩ := s
  obtain ⟨e0, e1, e2, e3, e4, e5, e6, e7, e8, e9, e10, e11, e12, e13⟩ := id hW
  obtain ⟨o0, o1, o2, o3, o4, o5, o6, o7, o8⟩ := id hO
  refine ⟨⟨b0.trans e0, b1.trans e1, b2.trans e2, b3.trans e3, b4.trans e4⟩, fun c hc => ?_, fun g hg => ?_⟩
  · obtain ⟨x, y, z⟩ := sc c (by omega)
    exact ⟨x.trans (e5 c hc), y.trans (e6 c hc), z.trans (e7 c hc)⟩
  · obtain ⟨x, y, z, u, v, w⟩ := sg g (by omega)
    exact ⟨x.trans (e8 g hg), y.trans (e9 g hg), z.trans (e10 g hg), u.trans (e11 g hg), v.trans (e12 g hg), w.trans (e13 g hg)⟩
theorem LO.tw {h' : Hp} (s : LO h h' t p) (hP : PG h p T) (hO : OKT T) : TW h' t T := by
  obtain ⟨-, ⟨b0, b1, b2, b3, b4⟩, sc, sg⟩ := s
  obtain ⟨⟨e0, e1, e2, e3, e4⟩, ec, eg⟩ := hP
  obtain ⟨o0, o1, o2, o3, o4, o5, o6, o7, o8⟩ := id hO
  refine ⟨b0.trans e0, b1.trans e1, b2.trans e2, b3.trans e3, b4.trans e4, fun c hc => ?_, fun c hc => ?_, fun c hc => ?_, fun g hg => ?_, fun g hg => ?_, fun g hg => ?_, fun g hg => ?_, fun g hg => ?_, fun g hg => ?_⟩
  · exact (sc c (by omega)).1.trans (ec c hc).1
  · exact (sc c (by omega)).2.1.trans (ec c hc).2.1
  · exact (sc c (by omega)).2.2.trans (ec c hc).2.2
  · exact (sg g (by omega)).1.trans (eg g hg).1
  · exact (sg g (by omega)).2.1.trans (eg g hg).2.1
  · exact (sg g (by omega)).2.2.1.trans (eg g hg).2.2.1
  · exact (sg g (by omega)).2.2.2.1.trans (eg g hg).2.2.2.1
  · exact (sg g (by omega)).2.2.2.2.1.trans (eg g hg).2.2.2.2.1
  · exact (sg g (by omega)).2.2.2.2.2.trans (eg g hg).2.2.2.2.2
theorem w3 (h : Hp) (p k : Nat) (a b c : Int32) : ∀ H, H = hs (hs (hs h p k a) p (k + 1) b) p (k + 2) c → H p k = a ∧ H p (k + 1) = b ∧ H p (k + 2) = c ∧ (∀ j, (j < k ∨ k + 2 < j) → H p j = h p j) ∧ ∀ q, q ≠ p → H q = h q := by
  rintro _ rfl
  refine ⟨?_, ?_, ?_, fun j hj => ?_, fun q hq => ?_⟩
  · rw [hs_ix (by omega), hs_ix (by omega), hs_same]
  · rw [hs_ix (by omega), hs_same]
  · rw [hs_same]
  · rw [hs_ix (by omega), hs_ix (by omega), hs_ix (by omega)]
  · rw [hs_ne hq, hs_ne hq, hs_ne hq]
theorem w6 (h : Hp) (p k : Nat) (a b c a' b' c' : Int32) : ∀ H, H = hs (hs (hs (hs (hs (hs h p k a) p (k + 1) b) p (k + 2) c) p (k + 3) a') p (k + 4) b') p (k + 5) c' → H p k = a ∧ H p (k + 1) = b ∧ H p (k + 2) = c ∧ H p (k + 3) = a' ∧ H p (k + 4) = b' ∧ H p (k + 5) = c' ∧ (∀ j, (j < k ∨ k + 5 < j) → H p j = h p j) ∧ ∀ q, q ≠ p → H q = h q := by
  rintro _ rfl
  refine ⟨?_, ?_, ?_, ?_, ?_, ?_, fun j hj => ?_, fun q hq => ?_⟩
  · rw [hs_ix (by omega), hs_ix (by omega), hs_ix (by omega), hs_ix (by omega), hs_ix (by omega), hs_same]
  · rw [hs_ix (by omega), hs_ix (by omega), hs_ix (by omega), hs_ix (by omega), hs_same]
  · rw [hs_ix (by omega), hs_ix (by omega), hs_ix (by omega), hs_same]
  · rw [hs_ix (by omega), hs_ix (by omega), hs_same]
  · rw [hs_ix (by omega), hs_same]
  · rw [hs_same]
  · rw [hs_ix (by omega), hs_ix (by omega), hs_ix (by omega), hs_ix (by omega), hs_ix (by omega), hs_ix (by omega)]
  · rw [hs_ne hq, hs_ne hq, hs_ne hq, hs_ne hq, hs_ne hq, hs_ne hq]
theorem sp_save {K : Hp → Prop} (hT : isT t) (hsr : shp[p]? = some (1, 56, [])) (hp : p < t ∨ t + 11 < p) (k : ∀ h', SV h h' t p → K h') : Call G d mX5_save [.ref t, .ref p] h (pV K) := by
  obtain ⟨ht, s0, s1, s2, s3, s4, s5, s6, s7, s8, s9, s10, s11⟩ := id hT
  have n0 : t ≠ p := by omega
  have n1 : t + 1 ≠ p := by omega
  have n2 : t + 2 ≠ p := by omega
  have n3 : t + 3 ≠ p := by omega
  have n4 : t + 4 ≠ p := by omega
  have n5 : t + 5 ≠ p := by omega
  have n6 : t + 6 ≠ p := by omega
  have n7 : t + 7 ≠ p := by omega
  have n8 : t + 8 ≠ p := by omega
  have n9 : t + 9 ≠ p := by omega
  have loop2 : ∀ m i h1, i + m = 6 → (∀ a, a ≠ p → h1 a = h a) → (h1 p 0 = h t 0 ∧ h1 p 1 = h t 1 ∧ h1 p 2 = h t 2 ∧ h1 p 3 = h t 3 ∧ h1 p 4 = h t 4) → (∀ c, c < 5 → h1 p (5 + 3 * c) = h (t + 1) c ∧ h1 p (5 + 3 * c + 1) = h (t + 2) c ∧ h1 p (5 + 3 * c + 2) = h (t + 3) c) →
      (∀ g, g < i → h1 p (20 + 6 * g) = h (t + 4) g ∧ h1 p (20 + 6 * g + 1) = h (t + 5) g ∧ h1 p (20 + 6 * g + 2) = h (t + 6) g ∧ h1 p (20 + 6 * g + 3) = h (t + 7) g ∧ h1 p (20 + 6 * g + 4) = h (t + 8) g ∧ h1 p (20 + 6 * g + 5) = h (t + 9) g) → WP G d mX5_save (pV K) 88 [some (.ref t), some (.ref p), some (.int (nI (20 + 6 * i))), some (.int (nI i))] [] h1 := by
    intro m
    induction m with
    | zero =>
      intro i h1 him hF a1 a2 a3
      refine wp_iload_n (pc := 88) (i := 3) dX5_save_88 rfl rfl ?_
      refine wp_bipush (pc := 89) (v := nI 6) dX5_save_89 rfl ?_
      first | (with_reducible show WP _ _ _ _ _ _ (Value.int (nI _) :: Value.int (nI _) :: _) _; refine wp_icmp_geN (pc := 91) (tgt := 172) dX5_save_91 (by decide) (by omega) (by omega) (fun c91 => ?_) (fun c91 => ?_)) | refine wp_icmp_ge (pc := 91) (tgt := 172) dX5_save_91 (by decide) (fun c91 => ?_) (fun c91 => ?_)
      refine wp_vret (pc := 172) dX5_save_172 rfl ?_
      rotate_left
      rotate_left
      · exact k h1 ⟨hF, a1, a2, fun g hg => a3 g (by omega)⟩
      · exact absurd him (by omega)
    | succ m ih =>
      intro i h1 him hF a1 a2 a3
      refine wp_iload_n (pc := 88) (i := 3) dX5_save_88 rfl rfl ?_
      refine wp_bipush (pc := 89) (v := nI 6) dX5_save_89 rfl ?_
      first | (with_reducible show WP _ _ _ _ _ _ (Value.int (nI _) :: Value.int (nI _) :: _) _; refine wp_icmp_geN (pc := 91) (tgt := 172) dX5_save_91 (by decide) (by omega) (by omega) (fun c91 => ?_) (fun c91 => ?_)) | refine wp_icmp_ge (pc := 91) (tgt := 172) dX5_save_91 (by decide) (fun c91 => ?_) (fun c91 => ?_)
      rotate_left
      refine wp_aload_n (pc := 94) (i := 1) dX5_save_94 rfl rfl ?_
      refine wp_iload_n (pc := 95) (i := 2) dX5_save_95 rfl rfl ?_
      first | refine wp_iincN (pc := 96) (i := 2) (n := 1) dX5_save_96 rfl rfl (by decide) rfl ?_ | refine wp_iinc (pc := 96) (i := 2) dX5_save_96 rfl rfl rfl (by decide) rfl ?_
      dsimp only [List.set_cons_zero, List.set_cons_succ]
      refine wp_aload_n (pc := 99) (i := 0) dX5_save_99 rfl rfl ?_
      refine wp_gfr (pc := 100) fk_X5_21 dX5_save_100 s0 rfl (by omega) ?_
      refine wp_iload_n (pc := 103) (i := 3) dX5_save_103 rfl rfl ?_
      first | (with_reducible show WP _ _ _ _ _ _ (Value.int (nI _) :: _) _; refine wp_ialdN (pc := 104) dX5_save_104 s4 (by omega) (by (try simp only [hs_ne n4, hs_ne n5, hs_ne n6, hs_ne n7, hs_ne n8, hs_ne n9]); rfl) ?_) | refine wp_iald (pc := 104) dX5_save_104 s4 (by assumption) rfl ?_
      first | (with_reducible show WP _ _ _ _ _ _ (_ :: Value.int (nI _) :: _) _; refine wp_iastN (pc := 105) dX5_save_105 hsr (by omega) ?_) | refine wp_iast (pc := 105) dX5_save_105 hsr (by assumption) rfl ?_
      refine wp_aload_n (pc := 106) (i := 1) dX5_save_106 rfl rfl ?_
      refine wp_iload_n (pc := 107) (i := 2) dX5_save_107 rfl rfl ?_
      first | refine wp_iincN (pc := 108) (i := 2) (n := 1) dX5_save_108 rfl rfl (by decide) rfl ?_ | refine wp_iinc (pc := 108) (i := 2) dX5_save_108 rfl rfl rfl (by decide) rfl ?_
      dsimp only [List.set_cons_zero, List.set_cons_succ]
      refine wp_aload_n (pc := 111) (i := 0) dX5_save_111 rfl rfl ?_
      refine wp_gfr (pc := 112) fk_X5_24 dX5_save_112 s0 rfl (by omega) ?_
      refine wp_iload_n (pc := 115) (i := 3) dX5_save_115 rfl rfl ?_
      first | (with_reducible show WP _ _ _ _ _ _ (Value.int (nI _) :: _) _; refine wp_ialdN (pc := 116) dX5_save_116 s5 (by omega) (by (try simp only [hs_ne n4, hs_ne n5, hs_ne n6, hs_ne n7, hs_ne n8, hs_ne n9]); rfl) ?_) | refine wp_iald (pc := 116) dX5_save_116 s5 (by assumption) rfl ?_
      first | (with_reducible show WP _ _ _ _ _ _ (_ :: Value.int (nI _) :: _) _; refine wp_iastN (pc := 117) dX5_save_117 hsr (by omega) ?_) | refine wp_iast (pc := 117) dX5_save_117 hsr (by assumption) rfl ?_
      refine wp_aload_n (pc := 118) (i := 1) dX5_save_118 rfl rfl ?_
      refine wp_iload_n (pc := 119) (i := 2) dX5_save_119 rfl rfl ?_
      first | refine wp_iincN (pc := 120) (i := 2) (n := 1) dX5_save_120 rfl rfl (by decide) rfl ?_ | refine wp_iinc (pc := 120) (i := 2) dX5_save_120 rfl rfl rfl (by decide) rfl ?_
      dsimp only [List.set_cons_zero, List.set_cons_succ]
      refine wp_aload_n (pc := 123) (i := 0) dX5_save_123 rfl rfl ?_
      refine wp_gfr (pc := 124) fk_X5_27 dX5_save_124 s0 rfl (by omega) ?_
      refine wp_iload_n (pc := 127) (i := 3) dX5_save_127 rfl rfl ?_
      first | (with_reducible show WP _ _ _ _ _ _ (Value.int (nI _) :: _) _; refine wp_ialdN (pc := 128) dX5_save_128 s6 (by omega) (by (try simp only [hs_ne n4, hs_ne n5, hs_ne n6, hs_ne n7, hs_ne n8, hs_ne n9]); rfl) ?_) | refine wp_iald (pc := 128) dX5_save_128 s6 (by assumption) rfl ?_
      first | (with_reducible show WP _ _ _ _ _ _ (_ :: Value.int (nI _) :: _) _; refine wp_iastN (pc := 129) dX5_save_129 hsr (by omega) ?_) | refine wp_iast (pc := 129) dX5_save_129 hsr (by assumption) rfl ?_
      refine wp_aload_n (pc := 130) (i := 1) dX5_save_130 rfl rfl ?_
      refine wp_iload_n (pc := 131) (i := 2) dX5_save_131 rfl rfl ?_
      first | refine wp_iincN (pc := 132) (i := 2) (n := 1) dX5_save_132 rfl rfl (by decide) rfl ?_ | refine wp_iinc (pc := 132) (i := 2) dX5_save_132 rfl rfl rfl (by decide) rfl ?_
      dsimp only [List.set_cons_zero, List.set_cons_succ]
      refine wp_aload_n (pc := 135) (i := 0) dX5_save_135 rfl rfl ?_
      refine wp_gfr (pc := 136) fk_X5_30 dX5_save_136 s0 rfl (by omega) ?_
      refine wp_iload_n (pc := 139) (i := 3) dX5_save_139 rfl rfl ?_
      first | (with_reducible show WP _ _ _ _ _ _ (Value.int (nI _) :: _) _; refine wp_ialdN (pc := 140) dX5_save_140 s7 (by omega) (by (try simp only [hs_ne n4, hs_ne n5, hs_ne n6, hs_ne n7, hs_ne n8, hs_ne n9]); rfl) ?_) | refine wp_iald (pc := 140) dX5_save_140 s7 (by assumption) rfl ?_
      first | (with_reducible show WP _ _ _ _ _ _ (_ :: Value.int (nI _) :: _) _; refine wp_iastN (pc := 141) dX5_save_141 hsr (by omega) ?_) | refine wp_iast (pc := 141) dX5_save_141 hsr (by assumption) rfl ?_
      refine wp_aload_n (pc := 142) (i := 1) dX5_save_142 rfl rfl ?_
      refine wp_iload_n (pc := 143) (i := 2) dX5_save_143 rfl rfl ?_
      first | refine wp_iincN (pc := 144) (i := 2) (n := 1) dX5_save_144 rfl rfl (by decide) rfl ?_ | refine wp_iinc (pc := 144) (i := 2) dX5_save_144 rfl rfl rfl (by decide) rfl ?_
      dsimp only [List.set_cons_zero, List.set_cons_succ]
      refine wp_aload_n (pc := 147) (i := 0) dX5_save_147 rfl rfl ?_
      refine wp_gfr (pc := 148) fk_X5_33 dX5_save_148 s0 rfl (by omega) ?_
      refine wp_iload_n (pc := 151) (i := 3) dX5_save_151 rfl rfl ?_
      first | (with_reducible show WP _ _ _ _ _ _ (Value.int (nI _) :: _) _; refine wp_ialdN (pc := 152) dX5_save_152 s8 (by omega) (by (try simp only [hs_ne n4, hs_ne n5, hs_ne n6, hs_ne n7, hs_ne n8, hs_ne n9]); rfl) ?_) | refine wp_iald (pc := 152) dX5_save_152 s8 (by assumption) rfl ?_
      first | (with_reducible show WP _ _ _ _ _ _ (_ :: Value.int (nI _) :: _) _; refine wp_iastN (pc := 153) dX5_save_153 hsr (by omega) ?_) | refine wp_iast (pc := 153) dX5_save_153 hsr (by assumption) rfl ?_
      refine wp_aload_n (pc := 154) (i := 1) dX5_save_154 rfl rfl ?_
      refine wp_iload_n (pc := 155) (i := 2) dX5_save_155 rfl rfl ?_
      first | refine wp_iincN (pc := 156) (i := 2) (n := 1) dX5_save_156 rfl rfl (by decide) rfl ?_ | refine wp_iinc (pc := 156) (i := 2) dX5_save_156 rfl rfl rfl (by decide) rfl ?_
      dsimp only [List.set_cons_zero, List.set_cons_succ]
      refine wp_aload_n (pc := 159) (i := 0) dX5_save_159 rfl rfl ?_
      refine wp_gfr (pc := 160) fk_X5_36 dX5_save_160 s0 rfl (by omega) ?_
      refine wp_iload_n (pc := 163) (i := 3) dX5_save_163 rfl rfl ?_
      first | (with_reducible show WP _ _ _ _ _ _ (Value.int (nI _) :: _) _; refine wp_ialdN (pc := 164) dX5_save_164 s9 (by omega) (by (try simp only [hs_ne n4, hs_ne n5, hs_ne n6, hs_ne n7, hs_ne n8, hs_ne n9]); rfl) ?_) | refine wp_iald (pc := 164) dX5_save_164 s9 (by assumption) rfl ?_
      first | (with_reducible show WP _ _ _ _ _ _ (_ :: Value.int (nI _) :: _) _; refine wp_iastN (pc := 165) dX5_save_165 hsr (by omega) ?_) | refine wp_iast (pc := 165) dX5_save_165 hsr (by assumption) rfl ?_
      first | refine wp_iincN (pc := 166) (i := 3) (n := 1) dX5_save_166 rfl rfl (by decide) rfl ?_ | refine wp_iinc (pc := 166) (i := 3) dX5_save_166 rfl rfl rfl (by decide) rfl ?_
      dsimp only [List.set_cons_zero, List.set_cons_succ]
      refine wp_goto (pc := 169) (tgt := 88) dX5_save_169 (by decide) ?_
      rotate_left
      · exact absurd him (by omega)
      · obtain ⟨x1, x2, x3, x4, x5, x6, x7, x8⟩ := w6 h1 p (20 + 6 * i) (h1 (t + 4) i) (h1 (t + 5) i) (h1 (t + 6) i) (h1 (t + 7) i) (h1 (t + 8) i) (h1 (t + 9) i) _ rfl
        have hh := ih (i + 1) (hs (hs (hs (hs (hs (hs h1 p (20 + 6 * i) (h1 (t + 4) i)) p (20 + 6 * i + 1) (h1 (t + 5) i)) p (20 + 6 * i + 2) (h1 (t + 6) i)) p (20 + 6 * i + 3) (h1 (t + 7) i)) p (20 + 6 * i + 4) (h1 (t + 8) i)) p (20 + 6 * i + 5) (h1 (t + 9) i)) (by omega) (fun a ha => (x8 a ha).trans (hF a ha)) (by rw [x7 _ (by omega), x7 _ (by omega), x7 _ (by omega), x7 _ (by omega), x7 _ (by omega)]; exact a1) (fun c hc => by rw [x7 _ (by omega), x7 _ (by omega), x7 _ (by omega)]; exact a2 c hc) (fun g hg => ?_)
        · rw [show 20 + 6 * (i + 1) = 20 + 6 * i + 6 by omega] at hh
          exact hh
        · by_cases z : g = i
          · subst z
            rw [x1, x2, x3, x4, x5, x6, hF _ n4, hF _ n5, hF _ n6, hF _ n7, hF _ n8, hF _ n9]
            exact ⟨rfl, rfl, rfl, rfl, rfl, rfl⟩
          · rw [x7 _ (by omega), x7 _ (by omega), x7 _ (by omega), x7 _ (by omega), x7 _ (by omega), x7 _ (by omega)]
            exact a3 g (by omega)
  have loop1 : ∀ m i h1, i + m = 5 → (∀ a, a ≠ p → h1 a = h a) → (h1 p 0 = h t 0 ∧ h1 p 1 = h t 1 ∧ h1 p 2 = h t 2 ∧ h1 p 3 = h t 3 ∧ h1 p 4 = h t 4) → (∀ c, c < i → h1 p (5 + 3 * c) = h (t + 1) c ∧ h1 p (5 + 3 * c + 1) = h (t + 2) c ∧ h1 p (5 + 3 * c + 2) = h (t + 3) c) →
      WP G d mX5_save (pV K) 39 [some (.ref t), some (.ref p), some (.int (nI (5 + 3 * i))), some (.int (nI i))] [] h1 := by
    intro m
    induction m with
    | zero =>
      intro i h1 him hF a1 a2
      refine wp_iload_n (pc := 39) (i := 3) dX5_save_39 rfl rfl ?_
      refine wp_iconst (pc := 40) (v := nI 5) dX5_save_40 rfl ?_
      first | (with_reducible show WP _ _ _ _ _ _ (Value.int (nI _) :: Value.int (nI _) :: _) _; refine wp_icmp_geN (pc := 41) (tgt := 86) dX5_save_41 (by decide) (by omega) (by omega) (fun c41 => ?_) (fun c41 => ?_)) | refine wp_icmp_ge (pc := 41) (tgt := 86) dX5_save_41 (by decide) (fun c41 => ?_) (fun c41 => ?_)
      refine wp_iconst (pc := 86) (v := nI 0) dX5_save_86 rfl ?_
      refine wp_istore_n (pc := 87) (i := 3) dX5_save_87 rfl rfl (by decide) rfl ?_
      dsimp only [List.set_cons_zero, List.set_cons_succ]
      rotate_left
      rotate_left
      · rw [show 5 + 3 * i = 20 + 6 * 0 by omega]
        exact loop2 6 0 h1 (by omega) hF a1 (fun c hc => a2 c (by omega)) (fun g hg => absurd hg (by omega))
      · exact absurd him (by omega)
    | succ m ih =>
      intro i h1 him hF a1 a2
      refine wp_iload_n (pc := 39) (i := 3) dX5_save_39 rfl rfl ?_
      refine wp_iconst (pc := 40) (v := nI 5) dX5_save_40 rfl ?_
      first | (with_reducible show WP _ _ _ _ _ _ (Value.int (nI _) :: Value.int (nI _) :: _) _; refine wp_icmp_geN (pc := 41) (tgt := 86) dX5_save_41 (by decide) (by omega) (by omega) (fun c41 => ?_) (fun c41 => ?_)) | refine wp_icmp_ge (pc := 41) (tgt := 86) dX5_save_41 (by decide) (fun c41 => ?_) (fun c41 => ?_)
      rotate_left
      refine wp_aload_n (pc := 44) (i := 1) dX5_save_44 rfl rfl ?_
      refine wp_iload_n (pc := 45) (i := 2) dX5_save_45 rfl rfl ?_
      first | refine wp_iincN (pc := 46) (i := 2) (n := 1) dX5_save_46 rfl rfl (by decide) rfl ?_ | refine wp_iinc (pc := 46) (i := 2) dX5_save_46 rfl rfl rfl (by decide) rfl ?_
      dsimp only [List.set_cons_zero, List.set_cons_succ]
      refine wp_aload_n (pc := 49) (i := 0) dX5_save_49 rfl rfl ?_
      refine wp_gfr (pc := 50) fk_X5_9 dX5_save_50 s0 rfl (by omega) ?_
      refine wp_iload_n (pc := 53) (i := 3) dX5_save_53 rfl rfl ?_
      first | (with_reducible show WP _ _ _ _ _ _ (Value.int (nI _) :: _) _; refine wp_ialdN (pc := 54) dX5_save_54 s1 (by omega) (by (try simp only [hs_ne n1, hs_ne n2, hs_ne n3]); rfl) ?_) | refine wp_iald (pc := 54) dX5_save_54 s1 (by assumption) rfl ?_
      first | (with_reducible show WP _ _ _ _ _ _ (_ :: Value.int (nI _) :: _) _; refine wp_iastN (pc := 55) dX5_save_55 hsr (by omega) ?_) | refine wp_iast (pc := 55) dX5_save_55 hsr (by assumption) rfl ?_
      refine wp_aload_n (pc := 56) (i := 1) dX5_save_56 rfl rfl ?_
      refine wp_iload_n (pc := 57) (i := 2) dX5_save_57 rfl rfl ?_
      first | refine wp_iincN (pc := 58) (i := 2) (n := 1) dX5_save_58 rfl rfl (by decide) rfl ?_ | refine wp_iinc (pc := 58) (i := 2) dX5_save_58 rfl rfl rfl (by decide) rfl ?_
      dsimp only [List.set_cons_zero, List.set_cons_succ]
      refine wp_aload_n (pc := 61) (i := 0) dX5_save_61 rfl rfl ?_
      refine wp_gfr (pc := 62) fk_X5_15 dX5_save_62 s0 rfl (by omega) ?_
      refine wp_iload_n (pc := 65) (i := 3) dX5_save_65 rfl rfl ?_
      first | (with_reducible show WP _ _ _ _ _ _ (Value.int (nI _) :: _) _; refine wp_ialdN (pc := 66) dX5_save_66 s2 (by omega) (by (try simp only [hs_ne n1, hs_ne n2, hs_ne n3]); rfl) ?_) | refine wp_iald (pc := 66) dX5_save_66 s2 (by assumption) rfl ?_
      first | (with_reducible show WP _ _ _ _ _ _ (_ :: Value.int (nI _) :: _) _; refine wp_iastN (pc := 67) dX5_save_67 hsr (by omega) ?_) | refine wp_iast (pc := 67) dX5_save_67 hsr (by assumption) rfl ?_
      refine wp_aload_n (pc := 68) (i := 1) dX5_save_68 rfl rfl ?_
      refine wp_iload_n (pc := 69) (i := 2) dX5_save_69 rfl rfl ?_
      first | refine wp_iincN (pc := 70) (i := 2) (n := 1) dX5_save_70 rfl rfl (by decide) rfl ?_ | refine wp_iinc (pc := 70) (i := 2) dX5_save_70 rfl rfl rfl (by decide) rfl ?_
      dsimp only [List.set_cons_zero, List.set_cons_succ]
      refine wp_aload_n (pc := 73) (i := 0) dX5_save_73 rfl rfl ?_
      refine wp_gfr (pc := 74) fk_X5_18 dX5_save_74 s0 rfl (by omega) ?_
      refine wp_iload_n (pc := 77) (i := 3) dX5_save_77 rfl rfl ?_
      first | (with_reducible show WP _ _ _ _ _ _ (Value.int (nI _) :: _) _; refine wp_ialdN (pc := 78) dX5_save_78 s3 (by omega) (by (try simp only [hs_ne n1, hs_ne n2, hs_ne n3]); rfl) ?_) | refine wp_iald (pc := 78) dX5_save_78 s3 (by assumption) rfl ?_
      first | (with_reducible show WP _ _ _ _ _ _ (_ :: Value.int (nI _) :: _) _; refine wp_iastN (pc := 79) dX5_save_79 hsr (by omega) ?_) | refine wp_iast (pc := 79) dX5_save_79 hsr (by assumption) rfl ?_
      first | refine wp_iincN (pc := 80) (i := 3) (n := 1) dX5_save_80 rfl rfl (by decide) rfl ?_ | refine wp_iinc (pc := 80) (i := 3) dX5_save_80 rfl rfl rfl (by decide) rfl ?_
      dsimp only [List.set_cons_zero, List.set_cons_succ]
      refine wp_goto (pc := 83) (tgt := 39) dX5_save_83 (by decide) ?_
      rotate_left
      · exact absurd him (by omega)
      · obtain ⟨x1, x2, x3, x7, x8⟩ := w3 h1 p (5 + 3 * i) (h1 (t + 1) i) (h1 (t + 2) i) (h1 (t + 3) i) _ rfl
        have hh := ih (i + 1) (hs (hs (hs h1 p (5 + 3 * i) (h1 (t + 1) i)) p (5 + 3 * i + 1) (h1 (t + 2) i)) p (5 + 3 * i + 2) (h1 (t + 3) i)) (by omega) (fun a ha => (x8 a ha).trans (hF a ha)) (by rw [x7 _ (by omega), x7 _ (by omega), x7 _ (by omega), x7 _ (by omega), x7 _ (by omega)]; exact a1) (fun c hc => ?_)
        · rw [show 5 + 3 * (i + 1) = 5 + 3 * i + 3 by omega] at hh
          exact hh
        · by_cases z : c = i
          · subst z
            rw [x1, x2, x3, hF _ n1, hF _ n2, hF _ n3]
            exact ⟨rfl, rfl, rfl⟩
          · rw [x7 _ (by omega), x7 _ (by omega), x7 _ (by omega)]
            exact a2 c (by omega)
  refine Call.of (M := mX5_save) (n := 2) (by decide +kernel) rfl ?_
  show WP _ _ _ _ 0 [some (.ref t), some (.ref p), none, none] [] _
  refine wp_aload_n (pc := 0) (i := 1) dX5_save_0 rfl rfl ?_
  refine wp_iconst (pc := 1) (v := nI 0) dX5_save_1 rfl ?_
  refine wp_aload_n (pc := 2) (i := 0) dX5_save_2 rfl rfl ?_
  refine wp_gfv (pc := 3) fk_X5_52 dX5_save_3 s0 rfl (by (try simp only [hs_ne n0]); rfl) ?_
  first | (with_reducible show WP _ _ _ _ _ _ (_ :: Value.int (nI _) :: _) _; refine wp_iastN (pc := 6) dX5_save_6 hsr (by omega) ?_) | refine wp_iast (pc := 6) dX5_save_6 hsr (by assumption) rfl ?_
  refine wp_aload_n (pc := 7) (i := 1) dX5_save_7 rfl rfl ?_
  refine wp_iconst (pc := 8) (v := nI 1) dX5_save_8 rfl ?_
  refine wp_aload_n (pc := 9) (i := 0) dX5_save_9 rfl rfl ?_
  refine wp_gfv (pc := 10) fk_X5_55 dX5_save_10 s0 rfl (by (try simp only [hs_ne n0]); rfl) ?_
  first | (with_reducible show WP _ _ _ _ _ _ (_ :: Value.int (nI _) :: _) _; refine wp_iastN (pc := 13) dX5_save_13 hsr (by omega) ?_) | refine wp_iast (pc := 13) dX5_save_13 hsr (by assumption) rfl ?_
  refine wp_aload_n (pc := 14) (i := 1) dX5_save_14 rfl rfl ?_
  refine wp_iconst (pc := 15) (v := nI 2) dX5_save_15 rfl ?_
  refine wp_aload_n (pc := 16) (i := 0) dX5_save_16 rfl rfl ?_
  refine wp_gfv (pc := 17) fk_X5_45 dX5_save_17 s0 rfl (by (try simp only [hs_ne n0]); rfl) ?_
  first | (with_reducible show WP _ _ _ _ _ _ (_ :: Value.int (nI _) :: _) _; refine wp_iastN (pc := 20) dX5_save_20 hsr (by omega) ?_) | refine wp_iast (pc := 20) dX5_save_20 hsr (by assumption) rfl ?_
  refine wp_aload_n (pc := 21) (i := 1) dX5_save_21 rfl rfl ?_
  refine wp_iconst (pc := 22) (v := nI 3) dX5_save_22 rfl ?_
  refine wp_aload_n (pc := 23) (i := 0) dX5_save_23 rfl rfl ?_
  refine wp_gfv (pc := 24) fk_X5_49 dX5_save_24 s0 rfl (by (try simp only [hs_ne n0]); rfl) ?_
  first | (with_reducible show WP _ _ _ _ _ _ (_ :: Value.int (nI _) :: _) _; refine wp_iastN (pc := 27) dX5_save_27 hsr (by omega) ?_) | refine wp_iast (pc := 27) dX5_save_27 hsr (by assumption) rfl ?_
  refine wp_aload_n (pc := 28) (i := 1) dX5_save_28 rfl rfl ?_
  refine wp_iconst (pc := 29) (v := nI 4) dX5_save_29 rfl ?_
  refine wp_aload_n (pc := 30) (i := 0) dX5_save_30 rfl rfl ?_
  refine wp_gfv (pc := 31) fk_X5_58 dX5_save_31 s0 rfl (by (try simp only [hs_ne n0]); rfl) ?_
  first | (with_reducible show WP _ _ _ _ _ _ (_ :: Value.int (nI _) :: _) _; refine wp_iastN (pc := 34) dX5_save_34 hsr (by omega) ?_) | refine wp_iast (pc := 34) dX5_save_34 hsr (by assumption) rfl ?_
  refine wp_iconst (pc := 35) (v := nI 5) dX5_save_35 rfl ?_
  refine wp_istore_n (pc := 36) (i := 2) dX5_save_36 rfl rfl (by decide) rfl ?_
  dsimp only [List.set_cons_zero, List.set_cons_succ]
  refine wp_iconst (pc := 37) (v := nI 0) dX5_save_37 rfl ?_
  refine wp_istore_n (pc := 38) (i := 3) dX5_save_38 rfl rfl (by decide) rfl ?_
  dsimp only [List.set_cons_zero, List.set_cons_succ]
  rotate_left
  rw [show (5 : Nat) = 5 + 3 * 0 from rfl]
  refine loop1 5 0 _ (by omega) (fun a ha => ?_) ⟨?_, ?_, ?_, ?_, ?_⟩ (fun c hc => absurd hc (by omega))
  · rw [hs_ne ha, hs_ne ha, hs_ne ha, hs_ne ha, hs_ne ha]
  · rw [hs_ix (by omega), hs_ix (by omega), hs_ix (by omega), hs_ix (by omega), hs_same]
  · rw [hs_ix (by omega), hs_ix (by omega), hs_ix (by omega), hs_same]
  · rw [hs_ix (by omega), hs_ix (by omega), hs_same]
  · rw [hs_ix (by omega), hs_same]
  · rw [hs_same]
theorem sp_load {K : Hp → Prop} (hT : isT t) (hsr : shp[p]? = some (1, 56, [])) (hp : p < t ∨ t + 11 < p) (k : ∀ h', LO h h' t p → K h') : Call G d mX5_load [.ref t, .ref p] h (pV K) := by
  obtain ⟨ht, s0, s1, s2, s3, s4, s5, s6, s7, s8, s9, s10, s11⟩ := id hT
  have n0 : p ≠ t := by omega
  have n1 : p ≠ t + 1 := by omega
  have n2 : p ≠ t + 2 := by omega
  have n3 : p ≠ t + 3 := by omega
  have n4 : p ≠ t + 4 := by omega
  have n5 : p ≠ t + 5 := by omega
  have n6 : p ≠ t + 6 := by omega
  have n7 : p ≠ t + 7 := by omega
  have n8 : p ≠ t + 8 := by omega
  have n9 : p ≠ t + 9 := by omega
  have loop2 : ∀ m i h1, i + m = 6 → (∀ a, a < t ∨ t + 9 < a → h1 a = h a) → (h1 t 0 = h p 0 ∧ h1 t 1 = h p 1 ∧ h1 t 2 = h p 2 ∧ h1 t 3 = h p 3 ∧ h1 t 4 = h p 4) → (∀ c, c < 5 → h1 (t + 1) c = h p (5 + 3 * c) ∧ h1 (t + 2) c = h p (5 + 3 * c + 1) ∧ h1 (t + 3) c = h p (5 + 3 * c + 2)) →
      (∀ g, g < i → h1 (t + 4) g = h p (20 + 6 * g) ∧ h1 (t + 5) g = h p (20 + 6 * g + 1) ∧ h1 (t + 6) g = h p (20 + 6 * g + 2) ∧ h1 (t + 7) g = h p (20 + 6 * g + 3) ∧ h1 (t + 8) g = h p (20 + 6 * g + 4) ∧ h1 (t + 9) g = h p (20 + 6 * g + 5)) → WP G d mX5_load (pV K) 88 [some (.ref t), some (.ref p), some (.int (nI (20 + 6 * i))), some (.int (nI i))] [] h1 := by
    intro m
    induction m with
    | zero =>
      intro i h1 him hF a1 a2 a3
      refine wp_iload_n (pc := 88) (i := 3) dX5_load_88 rfl rfl ?_
      refine wp_bipush (pc := 89) (v := nI 6) dX5_load_89 rfl ?_
      first | (with_reducible show WP _ _ _ _ _ _ (Value.int (nI _) :: Value.int (nI _) :: _) _; refine wp_icmp_geN (pc := 91) (tgt := 172) dX5_load_91 (by decide) (by omega) (by omega) (fun c91 => ?_) (fun c91 => ?_)) | refine wp_icmp_ge (pc := 91) (tgt := 172) dX5_load_91 (by decide) (fun c91 => ?_) (fun c91 => ?_)
      refine wp_vret (pc := 172) dX5_load_172 rfl ?_
      rotate_left
      rotate_left
      · exact k h1 ⟨hF, a1, a2, fun g hg => a3 g (by omega)⟩
      · exact absurd him (by omega)
    | succ m ih =>
      intro i h1 him hF a1 a2 a3
      have hpp : h1 p = h p := hF p (by omega)
      refine wp_iload_n (pc := 88) (i := 3) dX5_load_88 rfl rfl ?_
      refine wp_bipush (pc := 89) (v := nI 6) dX5_load_89 rfl ?_
      first | (with_reducible show WP _ _ _ _ _ _ (Value.int (nI _) :: Value.int (nI _) :: _) _; refine wp_icmp_geN (pc := 91) (tgt := 172) dX5_load_91 (by decide) (by omega) (by omega) (fun c91 => ?_) (fun c91 => ?_)) | refine wp_icmp_ge (pc := 91) (tgt := 172) dX5_load_91 (by decide) (fun c91 => ?_) (fun c91 => ?_)
      rotate_left
      refine wp_aload_n (pc := 94) (i := 0) dX5_load_94 rfl rfl ?_
      refine wp_gfr (pc := 95) fk_X5_21 dX5_load_95 s0 rfl (by omega) ?_
      refine wp_iload_n (pc := 98) (i := 3) dX5_load_98 rfl rfl ?_
      refine wp_aload_n (pc := 99) (i := 1) dX5_load_99 rfl rfl ?_
      refine wp_iload_n (pc := 100) (i := 2) dX5_load_100 rfl rfl ?_
      first | refine wp_iincN (pc := 101) (i := 2) (n := 1) dX5_load_101 rfl rfl (by decide) rfl ?_ | refine wp_iinc (pc := 101) (i := 2) dX5_load_101 rfl rfl rfl (by decide) rfl ?_
      dsimp only [List.set_cons_zero, List.set_cons_succ]
      first | (with_reducible show WP _ _ _ _ _ _ (Value.int (nI _) :: _) _; refine wp_ialdN (pc := 104) dX5_load_104 hsr (by omega) (by (try simp only [hs_ne n4, hs_ne n5, hs_ne n6, hs_ne n7, hs_ne n8, hs_ne n9]); rfl) ?_) | refine wp_iald (pc := 104) dX5_load_104 hsr (by assumption) rfl ?_
      first | (with_reducible show WP _ _ _ _ _ _ (_ :: Value.int (nI _) :: _) _; refine wp_iastN (pc := 105) dX5_load_105 s4 (by omega) ?_) | refine wp_iast (pc := 105) dX5_load_105 s4 (by assumption) rfl ?_
      refine wp_aload_n (pc := 106) (i := 0) dX5_load_106 rfl rfl ?_
      refine wp_gfr (pc := 107) fk_X5_24 dX5_load_107 s0 rfl (by omega) ?_
      refine wp_iload_n (pc := 110) (i := 3) dX5_load_110 rfl rfl ?_
      refine wp_aload_n (pc := 111) (i := 1) dX5_load_111 rfl rfl ?_
      refine wp_iload_n (pc := 112) (i := 2) dX5_load_112 rfl rfl ?_
      first | refine wp_iincN (pc := 113) (i := 2) (n := 1) dX5_load_113 rfl rfl (by decide) rfl ?_ | refine wp_iinc (pc := 113) (i := 2) dX5_load_113 rfl rfl rfl (by decide) rfl ?_
      dsimp only [List.set_cons_zero, List.set_cons_succ]
      first | (with_reducible show WP _ _ _ _ _ _ (Value.int (nI _) :: _) _; refine wp_ialdN (pc := 116) dX5_load_116 hsr (by omega) (by (try simp only [hs_ne n4, hs_ne n5, hs_ne n6, hs_ne n7, hs_ne n8, hs_ne n9]); rfl) ?_) | refine wp_iald (pc := 116) dX5_load_116 hsr (by assumption) rfl ?_
      first | (with_reducible show WP _ _ _ _ _ _ (_ :: Value.int (nI _) :: _) _; refine wp_iastN (pc := 117) dX5_load_117 s5 (by omega) ?_) | refine wp_iast (pc := 117) dX5_load_117 s5 (by assumption) rfl ?_
      refine wp_aload_n (pc := 118) (i := 0) dX5_load_118 rfl rfl ?_
      refine wp_gfr (pc := 119) fk_X5_27 dX5_load_119 s0 rfl (by omega) ?_
      refine wp_iload_n (pc := 122) (i := 3) dX5_load_122 rfl rfl ?_
      refine wp_aload_n (pc := 123) (i := 1) dX5_load_123 rfl rfl ?_
      refine wp_iload_n (pc := 124) (i := 2) dX5_load_124 rfl rfl ?_
      first | refine wp_iincN (pc := 125) (i := 2) (n := 1) dX5_load_125 rfl rfl (by decide) rfl ?_ | refine wp_iinc (pc := 125) (i := 2) dX5_load_125 rfl rfl rfl (by decide) rfl ?_
      dsimp only [List.set_cons_zero, List.set_cons_succ]
      first | (with_reducible show WP _ _ _ _ _ _ (Value.int (nI _) :: _) _; refine wp_ialdN (pc := 128) dX5_load_128 hsr (by omega) (by (try simp only [hs_ne n4, hs_ne n5, hs_ne n6, hs_ne n7, hs_ne n8, hs_ne n9]); rfl) ?_) | refine wp_iald (pc := 128) dX5_load_128 hsr (by assumption) rfl ?_
      first | (with_reducible show WP _ _ _ _ _ _ (_ :: Value.int (nI _) :: _) _; refine wp_iastN (pc := 129) dX5_load_129 s6 (by omega) ?_) | refine wp_iast (pc := 129) dX5_load_129 s6 (by assumption) rfl ?_
      refine wp_aload_n (pc := 130) (i := 0) dX5_load_130 rfl rfl ?_
      refine wp_gfr (pc := 131) fk_X5_30 dX5_load_131 s0 rfl (by omega) ?_
      refine wp_iload_n (pc := 134) (i := 3) dX5_load_134 rfl rfl ?_
      refine wp_aload_n (pc := 135) (i := 1) dX5_load_135 rfl rfl ?_
      refine wp_iload_n (pc := 136) (i := 2) dX5_load_136 rfl rfl ?_
      first | refine wp_iincN (pc := 137) (i := 2) (n := 1) dX5_load_137 rfl rfl (by decide) rfl ?_ | refine wp_iinc (pc := 137) (i := 2) dX5_load_137 rfl rfl rfl (by decide) rfl ?_
      dsimp only [List.set_cons_zero, List.set_cons_succ]
      first | (with_reducible show WP _ _ _ _ _ _ (Value.int (nI _) :: _) _; refine wp_ialdN (pc := 140) dX5_load_140 hsr (by omega) (by (try simp only [hs_ne n4, hs_ne n5, hs_ne n6, hs_ne n7, hs_ne n8, hs_ne n9]); rfl) ?_) | refine wp_iald (pc := 140) dX5_load_140 hsr (by assumption) rfl ?_
      first | (with_reducible show WP _ _ _ _ _ _ (_ :: Value.int (nI _) :: _) _; refine wp_iastN (pc := 141) dX5_load_141 s7 (by omega) ?_) | refine wp_iast (pc := 141) dX5_load_141 s7 (by assumption) rfl ?_
      refine wp_aload_n (pc := 142) (i := 0) dX5_load_142 rfl rfl ?_
      refine wp_gfr (pc := 143) fk_X5_33 dX5_load_143 s0 rfl (by omega) ?_
      refine wp_iload_n (pc := 146) (i := 3) dX5_load_146 rfl rfl ?_
      refine wp_aload_n (pc := 147) (i := 1) dX5_load_147 rfl rfl ?_
      refine wp_iload_n (pc := 148) (i := 2) dX5_load_148 rfl rfl ?_
      first | refine wp_iincN (pc := 149) (i := 2) (n := 1) dX5_load_149 rfl rfl (by decide) rfl ?_ | refine wp_iinc (pc := 149) (i := 2) dX5_load_149 rfl rfl rfl (by decide) rfl ?_
      dsimp only [List.set_cons_zero, List.set_cons_succ]
      first | (with_reducible show WP _ _ _ _ _ _ (Value.int (nI _) :: _) _; refine wp_ialdN (pc := 152) dX5_load_152 hsr (by omega) (by (try simp only [hs_ne n4, hs_ne n5, hs_ne n6, hs_ne n7, hs_ne n8, hs_ne n9]); rfl) ?_) | refine wp_iald (pc := 152) dX5_load_152 hsr (by assumption) rfl ?_
      first | (with_reducible show WP _ _ _ _ _ _ (_ :: Value.int (nI _) :: _) _; refine wp_iastN (pc := 153) dX5_load_153 s8 (by omega) ?_) | refine wp_iast (pc := 153) dX5_load_153 s8 (by assumption) rfl ?_
      refine wp_aload_n (pc := 154) (i := 0) dX5_load_154 rfl rfl ?_
      refine wp_gfr (pc := 155) fk_X5_36 dX5_load_155 s0 rfl (by omega) ?_
      refine wp_iload_n (pc := 158) (i := 3) dX5_load_158 rfl rfl ?_
      refine wp_aload_n (pc := 159) (i := 1) dX5_load_159 rfl rfl ?_
      refine wp_iload_n (pc := 160) (i := 2) dX5_load_160 rfl rfl ?_
      first | refine wp_iincN (pc := 161) (i := 2) (n := 1) dX5_load_161 rfl rfl (by decide) rfl ?_ | refine wp_iinc (pc := 161) (i := 2) dX5_load_161 rfl rfl rfl (by decide) rfl ?_
      dsimp only [List.set_cons_zero, List.set_cons_succ]
      first | (with_reducible show WP _ _ _ _ _ _ (Value.int (nI _) :: _) _; refine wp_ialdN (pc := 164) dX5_load_164 hsr (by omega) (by (try simp only [hs_ne n4, hs_ne n5, hs_ne n6, hs_ne n7, hs_ne n8, hs_ne n9]); rfl) ?_) | refine wp_iald (pc := 164) dX5_load_164 hsr (by assumption) rfl ?_
      first | (with_reducible show WP _ _ _ _ _ _ (_ :: Value.int (nI _) :: _) _; refine wp_iastN (pc := 165) dX5_load_165 s9 (by omega) ?_) | refine wp_iast (pc := 165) dX5_load_165 s9 (by assumption) rfl ?_
      first | refine wp_iincN (pc := 166) (i := 3) (n := 1) dX5_load_166 rfl rfl (by decide) rfl ?_ | refine wp_iinc (pc := 166) (i := 3) dX5_load_166 rfl rfl rfl (by decide) rfl ?_
      dsimp only [List.set_cons_zero, List.set_cons_succ]
      refine wp_goto (pc := 169) (tgt := 88) dX5_load_169 (by decide) ?_
      rotate_left
      · exact absurd him (by omega)
      · have hh := ih (i + 1) (hs (hs (hs (hs (hs (hs h1 (t + 4) i (h1 p (20 + 6 * i))) (t + 5) i (h1 p (20 + 6 * i + 1))) (t + 6) i (h1 p (20 + 6 * i + 2))) (t + 7) i (h1 p (20 + 6 * i + 3))) (t + 8) i (h1 p (20 + 6 * i + 4))) (t + 9) i (h1 p (20 + 6 * i + 5))) (by omega) (fun a ha => ?_) ?_ (fun c hc => ?_) (fun g hg => ?_)
        · rw [show 20 + 6 * (i + 1) = 20 + 6 * i + 6 by omega] at hh
          exact hh
        · rw [hs_ne (by omega), hs_ne (by omega), hs_ne (by omega), hs_ne (by omega), hs_ne (by omega), hs_ne (by omega)]; exact hF a ha
        · rw [hs_ne (by omega), hs_ne (by omega), hs_ne (by omega), hs_ne (by omega), hs_ne (by omega), hs_ne (by omega)]; exact a1
        · rw [hs_ne (show t + 1 ≠ t + 9 by omega), hs_ne (show t + 1 ≠ t + 8 by omega), hs_ne (show t + 1 ≠ t + 7 by omega), hs_ne (show t + 1 ≠ t + 6 by omega), hs_ne (show t + 1 ≠ t + 5 by omega), hs_ne (show t + 1 ≠ t + 4 by omega), hs_ne (show t + 2 ≠ t + 9 by omega), hs_ne (show t + 2 ≠ t + 8 by omega), hs_ne (show t + 2 ≠ t + 7 by omega), hs_ne (show t + 2 ≠ t + 6 by omega), hs_ne (show t + 2 ≠ t + 5 by omega), hs_ne (show t + 2 ≠ t + 4 by omega), hs_ne (show t + 3 ≠ t + 9 by omega), hs_ne (show t + 3 ≠ t + 8 by omega), hs_ne (show t + 3 ≠ t + 7 by omega), hs_ne (show t + 3 ≠ t + 6 by omega), hs_ne (show t + 3 ≠ t + 5 by omega), hs_ne (show t + 3 ≠ t + 4 by omega)]
          exact a2 c hc
        · rw [hs_ne (show t + 4 ≠ t + 9 by omega), hs_ne (show t + 4 ≠ t + 8 by omega), hs_ne (show t + 4 ≠ t + 7 by omega), hs_ne (show t + 4 ≠ t + 6 by omega), hs_ne (show t + 4 ≠ t + 5 by omega), hs_ne (show t + 5 ≠ t + 9 by omega), hs_ne (show t + 5 ≠ t + 8 by omega), hs_ne (show t + 5 ≠ t + 7 by omega), hs_ne (show t + 5 ≠ t + 6 by omega), hs_ne (show t + 6 ≠ t + 9 by omega), hs_ne (show t + 6 ≠ t + 8 by omega), hs_ne (show t + 6 ≠ t + 7 by omega), hs_ne (show t + 7 ≠ t + 9 by omega), hs_ne (show t + 7 ≠ t + 8 by omega), hs_ne (show t + 8 ≠ t + 9 by omega)]
          by_cases z : g = i
          · subst z
            rw [hs_same, hs_same, hs_same, hs_same, hs_same, hs_same, hpp]
            exact ⟨rfl, rfl, rfl, rfl, rfl, rfl⟩
          · rw [hs_ix z, hs_ix z, hs_ix z, hs_ix z, hs_ix z, hs_ix z]
            rw [hs_ne (show t + 5 ≠ t + 4 by omega), hs_ne (show t + 6 ≠ t + 5 by omega), hs_ne (show t + 6 ≠ t + 4 by omega), hs_ne (show t + 7 ≠ t + 6 by omega), hs_ne (show t + 7 ≠ t + 5 by omega), hs_ne (show t + 7 ≠ t + 4 by omega), hs_ne (show t + 8 ≠ t + 7 by omega), hs_ne (show t + 8 ≠ t + 6 by omega), hs_ne (show t + 8 ≠ t + 5 by omega), hs_ne (show t + 8 ≠ t + 4 by omega), hs_ne (show t + 9 ≠ t + 8 by omega), hs_ne (show t + 9 ≠ t + 7 by omega), hs_ne (show t + 9 ≠ t + 6 by omega), hs_ne (show t + 9 ≠ t + 5 by omega), hs_ne (show t + 9 ≠ t + 4 by omega)]
            exact a3 g (by omega)
  have loop1 : ∀ m i h1, i + m = 5 → (∀ a, a < t ∨ t + 9 < a → h1 a = h a) → (h1 t 0 = h p 0 ∧ h1 t 1 = h p 1 ∧ h1 t 2 = h p 2 ∧ h1 t 3 = h p 3 ∧ h1 t 4 = h p 4) → (∀ c, c < i → h1 (t + 1) c = h p (5 + 3 * c) ∧ h1 (t + 2) c = h p (5 + 3 * c + 1) ∧ h1 (t + 3) c = h p (5 + 3 * c + 2)) →
      WP G d mX5_load (pV K) 39 [some (.ref t), some (.ref p), some (.int (nI (5 + 3 * i))), some (.int (nI i))] [] h1 := by
    intro m
    induction m with
    | zero =>
      intro i h1 him hF a1 a2
      refine wp_iload_n (pc := 39) (i := 3) dX5_load_39 rfl rfl ?_
      refine wp_iconst (pc := 40) (v := nI 5) dX5_load_40 rfl ?_
      first | (with_reducible show WP _ _ _ _ _ _ (Value.int (nI _) :: Value.int (nI _) :: _) _; refine wp_icmp_geN (pc := 41) (tgt := 86) dX5_load_41 (by decide) (by omega) (by omega) (fun c41 => ?_) (fun c41 => ?_)) | refine wp_icmp_ge (pc := 41) (tgt := 86) dX5_load_41 (by decide) (fun c41 => ?_) (fun c41 => ?_)
      refine wp_iconst (pc := 86) (v := nI 0) dX5_load_86 rfl ?_
      refine wp_istore_n (pc := 87) (i := 3) dX5_load_87 rfl rfl (by decide) rfl ?_
      dsimp only [List.set_cons_zero, List.set_cons_succ]
      rotate_left
      rotate_left
      · rw [show 5 + 3 * i = 20 + 6 * 0 by omega]
        exact loop2 6 0 h1 (by omega) hF a1 (fun c hc => a2 c (by omega)) (fun g hg => absurd hg (by omega))
      · exact absurd him (by omega)
    | succ m ih =>
      intro i h1 him hF a1 a2
      have hpp : h1 p = h p := hF p (by omega)
      refine wp_iload_n (pc := 39) (i := 3) dX5_load_39 rfl rfl ?_
      refine wp_iconst (pc := 40) (v := nI 5) dX5_load_40 rfl ?_
      first | (with_reducible show WP _ _ _ _ _ _ (Value.int (nI _) :: Value.int (nI _) :: _) _; refine wp_icmp_geN (pc := 41) (tgt := 86) dX5_load_41 (by decide) (by omega) (by omega) (fun c41 => ?_) (fun c41 => ?_)) | refine wp_icmp_ge (pc := 41) (tgt := 86) dX5_load_41 (by decide) (fun c41 => ?_) (fun c41 => ?_)
      rotate_left
      refine wp_aload_n (pc := 44) (i := 0) dX5_load_44 rfl rfl ?_
      refine wp_gfr (pc := 45) fk_X5_9 dX5_load_45 s0 rfl (by omega) ?_
      refine wp_iload_n (pc := 48) (i := 3) dX5_load_48 rfl rfl ?_
      refine wp_aload_n (pc := 49) (i := 1) dX5_load_49 rfl rfl ?_
      refine wp_iload_n (pc := 50) (i := 2) dX5_load_50 rfl rfl ?_
      first | refine wp_iincN (pc := 51) (i := 2) (n := 1) dX5_load_51 rfl rfl (by decide) rfl ?_ | refine wp_iinc (pc := 51) (i := 2) dX5_load_51 rfl rfl rfl (by decide) rfl ?_
      dsimp only [List.set_cons_zero, List.set_cons_succ]
      first | (with_reducible show WP _ _ _ _ _ _ (Value.int (nI _) :: _) _; refine wp_ialdN (pc := 54) dX5_load_54 hsr (by omega) (by (try simp only [hs_ne n1, hs_ne n2, hs_ne n3]); rfl) ?_) | refine wp_iald (pc := 54) dX5_load_54 hsr (by assumption) rfl ?_
      first | (with_reducible show WP _ _ _ _ _ _ (_ :: Value.int (nI _) :: _) _; refine wp_iastN (pc := 55) dX5_load_55 s1 (by omega) ?_) | refine wp_iast (pc := 55) dX5_load_55 s1 (by assumption) rfl ?_
      refine wp_aload_n (pc := 56) (i := 0) dX5_load_56 rfl rfl ?_
      refine wp_gfr (pc := 57) fk_X5_15 dX5_load_57 s0 rfl (by omega) ?_
      refine wp_iload_n (pc := 60) (i := 3) dX5_load_60 rfl rfl ?_
      refine wp_aload_n (pc := 61) (i := 1) dX5_load_61 rfl rfl ?_
      refine wp_iload_n (pc := 62) (i := 2) dX5_load_62 rfl rfl ?_
      first | refine wp_iincN (pc := 63) (i := 2) (n := 1) dX5_load_63 rfl rfl (by decide) rfl ?_ | refine wp_iinc (pc := 63) (i := 2) dX5_load_63 rfl rfl rfl (by decide) rfl ?_
      dsimp only [List.set_cons_zero, List.set_cons_succ]
      first | (with_reducible show WP _ _ _ _ _ _ (Value.int (nI _) :: _) _; refine wp_ialdN (pc := 66) dX5_load_66 hsr (by omega) (by (try simp only [hs_ne n1, hs_ne n2, hs_ne n3]); rfl) ?_) | refine wp_iald (pc := 66) dX5_load_66 hsr (by assumption) rfl ?_
      first | (with_reducible show WP _ _ _ _ _ _ (_ :: Value.int (nI _) :: _) _; refine wp_iastN (pc := 67) dX5_load_67 s2 (by omega) ?_) | refine wp_iast (pc := 67) dX5_load_67 s2 (by assumption) rfl ?_
      refine wp_aload_n (pc := 68) (i := 0) dX5_load_68 rfl rfl ?_
      refine wp_gfr (pc := 69) fk_X5_18 dX5_load_69 s0 rfl (by omega) ?_
      refine wp_iload_n (pc := 72) (i := 3) dX5_load_72 rfl rfl ?_
      refine wp_aload_n (pc := 73) (i := 1) dX5_load_73 rfl rfl ?_
      refine wp_iload_n (pc := 74) (i := 2) dX5_load_74 rfl rfl ?_
      first | refine wp_iincN (pc := 75) (i := 2) (n := 1) dX5_load_75 rfl rfl (by decide) rfl ?_ | refine wp_iinc (pc := 75) (i := 2) dX5_load_75 rfl rfl rfl (by decide) rfl ?_
      dsimp only [List.set_cons_zero, List.set_cons_succ]
      first | (with_reducible show WP _ _ _ _ _ _ (Value.int (nI _) :: _) _; refine wp_ialdN (pc := 78) dX5_load_78 hsr (by omega) (by (try simp only [hs_ne n1, hs_ne n2, hs_ne n3]); rfl) ?_) | refine wp_iald (pc := 78) dX5_load_78 hsr (by assumption) rfl ?_
      first | (with_reducible show WP _ _ _ _ _ _ (_ :: Value.int (nI _) :: _) _; refine wp_iastN (pc := 79) dX5_load_79 s3 (by omega) ?_) | refine wp_iast (pc := 79) dX5_load_79 s3 (by assumption) rfl ?_
      first | refine wp_iincN (pc := 80) (i := 3) (n := 1) dX5_load_80 rfl rfl (by decide) rfl ?_ | refine wp_iinc (pc := 80) (i := 3) dX5_load_80 rfl rfl rfl (by decide) rfl ?_
      dsimp only [List.set_cons_zero, List.set_cons_succ]
      refine wp_goto (pc := 83) (tgt := 39) dX5_load_83 (by decide) ?_
      rotate_left
      · exact absurd him (by omega)
      · have hh := ih (i + 1) (hs (hs (hs h1 (t + 1) i (h1 p (5 + 3 * i))) (t + 2) i (h1 p (5 + 3 * i + 1))) (t + 3) i (h1 p (5 + 3 * i + 2))) (by omega) (fun a ha => ?_) ?_ (fun c hc => ?_)
        · rw [show 5 + 3 * (i + 1) = 5 + 3 * i + 3 by omega] at hh
          exact hh
        · rw [hs_ne (by omega), hs_ne (by omega), hs_ne (by omega)]; exact hF a ha
        · rw [hs_ne (by omega), hs_ne (by omega), hs_ne (by omega)]; exact a1
        · rw [hs_ne (show t + 1 ≠ t + 3 by omega), hs_ne (show t + 1 ≠ t + 2 by omega), hs_ne (show t + 2 ≠ t + 3 by omega)]
          by_cases z : c = i
          · subst z
            rw [hs_same, hs_same, hs_same, hpp]
            exact ⟨rfl, rfl, rfl⟩
          · rw [hs_ix z, hs_ix z, hs_ix z, hs_ne (show t + 2 ≠ t + 1 by omega), hs_ne (show t + 3 ≠ t + 2 by omega), hs_ne (show t + 3 ≠ t + 1 by omega)]
            exact a2 c (by omega)
  refine Call.of (M := mX5_load) (n := 2) (by decide +kernel) rfl ?_
  show WP _ _ _ _ 0 [some (.ref t), some (.ref p), none, none] [] _
  refine wp_aload_n (pc := 0) (i := 0) dX5_load_0 rfl rfl ?_
  refine wp_aload_n (pc := 1) (i := 1) dX5_load_1 rfl rfl ?_
  refine wp_iconst (pc := 2) (v := nI 0) dX5_load_2 rfl ?_
  first | (with_reducible show WP _ _ _ _ _ _ (Value.int (nI _) :: _) _; refine wp_ialdN (pc := 3) dX5_load_3 hsr (by omega) (by (try simp only [hs_ne n0]); rfl) ?_) | refine wp_iald (pc := 3) dX5_load_3 hsr (by assumption) rfl ?_
  refine wp_pf (pc := 4) fp_X5_52 dX5_load_4 s0 rfl rfl rfl ?_
  refine wp_aload_n (pc := 7) (i := 0) dX5_load_7 rfl rfl ?_
  refine wp_aload_n (pc := 8) (i := 1) dX5_load_8 rfl rfl ?_
  refine wp_iconst (pc := 9) (v := nI 1) dX5_load_9 rfl ?_
  first | (with_reducible show WP _ _ _ _ _ _ (Value.int (nI _) :: _) _; refine wp_ialdN (pc := 10) dX5_load_10 hsr (by omega) (by (try simp only [hs_ne n0]); rfl) ?_) | refine wp_iald (pc := 10) dX5_load_10 hsr (by assumption) rfl ?_
  refine wp_pf (pc := 11) fp_X5_55 dX5_load_11 s0 rfl rfl rfl ?_
  refine wp_aload_n (pc := 14) (i := 0) dX5_load_14 rfl rfl ?_
  refine wp_aload_n (pc := 15) (i := 1) dX5_load_15 rfl rfl ?_
  refine wp_iconst (pc := 16) (v := nI 2) dX5_load_16 rfl ?_
  first | (with_reducible show WP _ _ _ _ _ _ (Value.int (nI _) :: _) _; refine wp_ialdN (pc := 17) dX5_load_17 hsr (by omega) (by (try simp only [hs_ne n0]); rfl) ?_) | refine wp_iald (pc := 17) dX5_load_17 hsr (by assumption) rfl ?_
  refine wp_pf (pc := 18) fp_X5_45 dX5_load_18 s0 rfl rfl rfl ?_
  refine wp_aload_n (pc := 21) (i := 0) dX5_load_21 rfl rfl ?_
  refine wp_aload_n (pc := 22) (i := 1) dX5_load_22 rfl rfl ?_
  refine wp_iconst (pc := 23) (v := nI 3) dX5_load_23 rfl ?_
  first | (with_reducible show WP _ _ _ _ _ _ (Value.int (nI _) :: _) _; refine wp_ialdN (pc := 24) dX5_load_24 hsr (by omega) (by (try simp only [hs_ne n0]); rfl) ?_) | refine wp_iald (pc := 24) dX5_load_24 hsr (by assumption) rfl ?_
  refine wp_pf (pc := 25) fp_X5_49 dX5_load_25 s0 rfl rfl rfl ?_
  refine wp_aload_n (pc := 28) (i := 0) dX5_load_28 rfl rfl ?_
  refine wp_aload_n (pc := 29) (i := 1) dX5_load_29 rfl rfl ?_
  refine wp_iconst (pc := 30) (v := nI 4) dX5_load_30 rfl ?_
  first | (with_reducible show WP _ _ _ _ _ _ (Value.int (nI _) :: _) _; refine wp_ialdN (pc := 31) dX5_load_31 hsr (by omega) (by (try simp only [hs_ne n0]); rfl) ?_) | refine wp_iald (pc := 31) dX5_load_31 hsr (by assumption) rfl ?_
  refine wp_pf (pc := 32) fp_X5_58 dX5_load_32 s0 rfl rfl rfl ?_
  refine wp_iconst (pc := 35) (v := nI 5) dX5_load_35 rfl ?_
  refine wp_istore_n (pc := 36) (i := 2) dX5_load_36 rfl rfl (by decide) rfl ?_
  dsimp only [List.set_cons_zero, List.set_cons_succ]
  refine wp_iconst (pc := 37) (v := nI 0) dX5_load_37 rfl ?_
  refine wp_istore_n (pc := 38) (i := 3) dX5_load_38 rfl rfl (by decide) rfl ?_
  dsimp only [List.set_cons_zero, List.set_cons_succ]
  rotate_left
  rw [show (5 : Nat) = 5 + 3 * 0 from rfl]
  refine loop1 5 0 _ (by omega) (fun a ha => ?_) ⟨?_, ?_, ?_, ?_, ?_⟩ (fun c hc => absurd hc (by omega))
  · rw [hs_ne (by omega), hs_ne (by omega), hs_ne (by omega), hs_ne (by omega), hs_ne (by omega)]
  · rw [hs_ix (by omega), hs_ix (by omega), hs_ix (by omega), hs_ix (by omega), hs_same]
  · rw [hs_ix (by omega), hs_ix (by omega), hs_ix (by omega), hs_same]
  · rw [hs_ix (by omega), hs_ix (by omega), hs_same]
  · rw [hs_ix (by omega), hs_same]
  · rw [hs_same]
end SAVE
