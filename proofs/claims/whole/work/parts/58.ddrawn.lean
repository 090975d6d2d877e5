/-! days drawn by a seed -/
def nxs (s : Nat) : Nat := s * 16807 % 2147483647
def drI (V : Tn) (s : Nat) : Tn := if s % 4 = 0 then up V (44 + s % V 1) (s % 5) else V
def dsd (s : Nat) : Nat → Nat
  | 0 => s
  | n + 1 => nxs (dsd s n)
def drT (T : Tn) (s : Nat) : Nat → Tn
  | 0 => T
  | n + 1 => passT (drI (drT T s n) (dsd s (n + 1)))
def fDrawn (T : Tn) (n s w : Int32) : Int32 := if T 1 = 0 then kSTATE else if btw n 0 60 && btw s 1 999999 && btw w 0 1 then nI (smU (fun c => drT T s.toNatClampNeg n.toNatClampNeg ((if w = nI 0 then 5 else 10) + c)) (T 0)) else kBAD
theorem okt_drI {V : Tn} {s : Nat} (hO : OKT V) (h0 : 0 < V 1) : OKT (drI V s) ∧ ∀ j, (j < 44 ∨ 50 ≤ j) → drI V s j = V j := by
  have hm := Nat.mod_lt s h0
  have o1 := hO.2.1
  unfold drI
  split
  · exact ⟨okt_ill hO hm (by have := Nat.mod_lt s (show 0 < 5 by decide); omega), fun j hj => up_ne (by omega)⟩
  · exact ⟨hO, fun _ _ => rfl⟩
theorem okt_drT {T : Tn} (hO : OKT T) (h0 : 0 < T 1) (s : Nat) : ∀ n, T 4 + n ≤ 1200 → OKT (drT T s n) ∧ drT T s n 4 = T 4 + n ∧ drT T s n 0 = T 0 ∧ drT T s n 1 = T 1
  | 0, _ => ⟨hO, rfl, rfl, rfl⟩
  | n + 1, hn => by
    obtain ⟨a, b, c, e⟩ := okt_drT hO h0 s n (by omega)
    obtain ⟨p, q⟩ := okt_drI (s := dsd s (n + 1)) a (by omega)
    have q1 := q 1 (by omega)
    have q4 := q 4 (by omega)
    have q0 := q 0 (by omega)
    obtain ⟨r1, r2, r3⟩ := itP_keep p (by omega) 1 (by omega)
    refine ⟨r1, ?_, ?_, ?_⟩
    · have : drT T s (n + 1) 4 = drI (drT T s n) (dsd s (n + 1)) 4 + 1 := r2
      omega
    · have : drT T s (n + 1) 0 = drI (drT T s n) (dsd s (n + 1)) 0 := r3 0 (by omega)
      omega
    · have : drT T s (n + 1) 1 = drI (drT T s n) (dsd s (n + 1)) 1 := r3 1 (by omega)
      omega
theorem dsd_lt {s : Nat} (hs : s < 2147483647) : ∀ n, dsd s n < 2147483647
  | 0 => hs
  | n + 1 => Nat.mod_lt _ (by decide)
theorem cmp_ne {a b : Nat} (ha : a < 2 ^ 63) (hb : b < 2 ^ 63) : (¬ lg_cmp (lN a) (lN b) = 0) ↔ ¬ a = b := by
  sorry
section DDRAWN
variable {G : Gt} {d : Nat} {h : Hp} {T : Tn} {t : Nat}
theorem sp_fallIll {s : Nat} {K : Hp → Prop} (hT : isT t) (hW : TW h t T) (hO : OKT T) (h0 : 0 < T 1) (hs' : s < 2147483647) (k : ∀ h', TW h' t (up T (44 + s % T 1) (s % 5)) → Fr h h' t → K h') : Call G d mX5_fallIll [.ref t, .long (lN s)] h (pV K) := by
  obtain ⟨ht, s0, s1, s2, s3, s4, s5, s6, s7, s8, s9, s10, s11⟩ := id hT
  obtain ⟨e0, e1, e2, e3, e4, e5, e6, e7, e8, e9, e10, e11, e12, e13⟩ := id hW
  obtain ⟨o0, o1, o2, o3, o4, o5, o6, o7, o8⟩ := id hO
  have hm := Nat.mod_lt s h0
  have h5 := Nat.mod_lt s (show 0 < 5 by decide)
  refine Call.of (M := mX5_fallIll) (n := 0) (by decide +kernel) rfl ?_
  show WP _ _ _ _ 0 [some (.ref t), some (.long (lN s)), none] [] _
  refine wp_aload_n (pc := 0) (i := 0) dX5_fallIll_0 rfl rfl ?_
  refine wp_gfv (pc := 1) fk_X5_49 dX5_fallIll_1 s0 rfl (by first | with_reducible assumption | with_reducible exact hs_same _ _ _ _ | rfl) ?_
  first | (with_reducible show WP _ _ _ _ _ _ (Value.int (nI _) :: _) _; refine wp_if_leN (pc := 4) (tgt := 26) dX5_fallIll_4 (by decide) (by omega) (fun c4 => ?_) (fun c4 => ?_)) | refine wp_if_le (pc := 4) (tgt := 26) dX5_fallIll_4 (by decide) (fun c4 => ?_) (fun c4 => ?_)
  rotate_left
  refine wp_aload_n (pc := 7) (i := 0) dX5_fallIll_7 rfl rfl ?_
  refine wp_gfr (pc := 8) fk_X5_33 dX5_fallIll_8 s0 rfl (by omega) ?_
  refine wp_lload_n (pc := 11) (i := 1) dX5_fallIll_11 rfl rfl ?_
  refine wp_aload_n (pc := 12) (i := 0) dX5_fallIll_12 rfl rfl ?_
  refine wp_gfv (pc := 13) fk_X5_49 dX5_fallIll_13 s0 rfl (by first | with_reducible assumption | with_reducible exact hs_same _ _ _ _ | rfl) ?_
  first | (with_reducible show WP _ _ _ _ _ _ (Value.int (nI _) :: _) _; refine wp_i2lN (pc := 16) dX5_fallIll_16 (by omega) ?_) | refine wp_i2l (pc := 16) dX5_fallIll_16 rfl ?_
  refine wp_lremN (pc := 17) dX5_fallIll_17 (by omega) (by omega) (by omega) ?_
  refine wp_l2iN (pc := 18) dX5_fallIll_18 ?_
  refine wp_lload_n (pc := 19) (i := 1) dX5_fallIll_19 rfl rfl ?_
  refine wp_ldc2 (pc := 20) kn_X5_99 dX5_fallIll_20 ?_
  refine wp_lremN (pc := 23) dX5_fallIll_23 (by omega) (by omega) (by omega) ?_
  refine wp_l2iN (pc := 24) dX5_fallIll_24 ?_
  first | (with_reducible show WP _ _ _ _ _ _ (_ :: Value.int (nI _) :: _) _; refine wp_iastN (pc := 25) dX5_fallIll_25 s8 (by omega) ?_) | refine wp_iast (pc := 25) dX5_fallIll_25 s8 (by assumption) rfl ?_
  rotate_left
  all_goals sorry
end DDRAWN
