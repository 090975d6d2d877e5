def FD (h h' : Hp) : Prop := (∀ q, q < 13 ∨ q = 14 ∨ 26 < q → h' q = h q) ∧ h' 15 4 = h 15 4
theorem FD.rf (h : Hp) : FD h h := ⟨fun _ _ => rfl, rfl⟩
theorem FD.tr {h h1 h2 : Hp} (a : FD h h1) (b : FD h1 h2) : FD h h2 := ⟨fun q e => (b.1 q e).trans (a.1 q e), b.2.trans a.2⟩
theorem FD.hs {h h1 : Hp} {q i : Nat} {v : Int32} (a : FD h h1) (hq : 13 ≤ q ∧ q ≤ 26 ∧ q ≠ 14 ∧ (q = 15 → i ≠ 4)) : FD h (hs h1 q i v) := ⟨fun p e => (hs_ne (by omega)).trans (a.1 p e), by
  by_cases z : q = 15
  · subst z; rw [hs_ix (fun e => hq.2.2.2 rfl e.symm)]; exact a.2
  · rw [hs_ne (fun e => z e.symm)]; exact a.2⟩
theorem FD.e {h h1 h2 : Hp} (a : FD h h1) (e : ∀ q, q ≠ 13 → h2 q = h1 q) : FD h h2 := a.tr ⟨fun q hq => e q (by omega), by rw [e 15 (by decide)]⟩
def PT (T : Tn) : Prop := T 0 ≤ 5 ∧ T 1 ≤ 6 ∧ T 2 ≤ 9 ∧ (1 ≤ T 3 ∧ T 3 ≤ 6) ∧ T 4 = 0 ∧ (∀ c, c < 5 → T (5 + c) ≤ 99 ∧ T (10 + c) ≤ 20) ∧ (∀ c, T 0 ≤ c → c < 5 → T (5 + c) = 0 ∧ T (10 + c) = 0) ∧ (∀ c, c < 5 → T (15 + c) = 0) ∧
  (∀ g, g < T 1 → (1 ≤ T (20 + g) ∧ T (20 + g) ≤ 5) ∧ T (26 + g) ≤ 9 ∧ T (32 + g) < T 0 ∧ T (38 + g) ≤ 4) ∧ (∀ g, g < 6 → T (44 + g) = 0 ∧ T (50 + g) = 0)
theorem PT.okt {T : Tn} (H : PT T) (h0 : 0 < T 0) : OKT T := by
  obtain ⟨a0, a1, a2, a3, a4, a5, a6, a7, a8, a9⟩ := H
  refine ⟨a0, a1, a2, a3.2, by omega, fun _ => ⟨h0, by omega⟩, fun c hc => ?_, fun g hg => ?_, a6⟩
  · obtain ⟨p, q⟩ := a5 c hc
    have := a7 c hc
    exact ⟨p, q, by omega⟩
  · obtain ⟨p, q, r, s⟩ := a8 g hg
    obtain ⟨u, v⟩ := a9 g (by omega)
    exact ⟨p, q, r, s, by omega, by omega⟩
theorem PT.law {e p : Nat} (he : e ≤ 9) (hp : 1 ≤ p ∧ p ≤ 6) : PT (up (up zT 2 e) 3 p) := by
  have z : ∀ j, j ≠ 2 → j ≠ 3 → up (up zT 2 e) 3 p j = 0 := fun j h1 h2 => by rw [up_ne h2, up_ne h1]; rfl
  have z2 : up (up zT 2 e) 3 p 2 = e := by rw [up_ne (by decide), up_same]
  have z3 : up (up zT 2 e) 3 p 3 = p := up_same _ _ _
  refine ⟨by rw [z 0 (by omega) (by omega)]; omega, by rw [z 1 (by omega) (by omega)]; omega, by rw [z2]; exact he, by rw [z3]; exact hp, z 4 (by omega) (by omega), fun c hc => ?_, fun c _ hc => ?_, fun c hc => z _ (by omega) (by omega), fun g hg => ?_, fun g hg => ⟨z _ (by omega) (by omega), z _ (by omega) (by omega)⟩⟩
  · rw [z _ (by omega) (by omega), z _ (by omega) (by omega)]; omega
  · exact ⟨z _ (by omega) (by omega), z _ (by omega) (by omega)⟩
  · rw [z 1 (by omega) (by omega)] at hg; omega
theorem chT_at (T : Tn) (n f s : Nat) (hn : n < 5) : chT T n f s 0 = n + 1 ∧ chT T n f s (5 + n) = f ∧ chT T n f s (10 + n) = s ∧ ∀ j, j ≠ 0 → j ≠ 5 + n → j ≠ 10 + n → chT T n f s j = T j := by
  unfold chT
  refine ⟨up_same _ _ _, ?_, ?_, fun j h1 h2 h3 => ?_⟩
  · rw [up_ne (by omega), up_ne (by omega), up_same]
  · rw [up_ne (by omega), up_same]
  · rw [up_ne h1, up_ne h3, up_ne h2]
theorem PT.ch {T : Tn} {f s : Nat} (H : PT T) (h1 : T 1 = 0) (hn : T 0 < 5) (hf : f ≤ 60) (hs : s ≤ 20) : PT (chT T (T 0) f s) := by
  obtain ⟨a0, a1, a2, a3, a4, a5, a6, a7, a8, a9⟩ := H
  obtain ⟨c0, c1, c2, c3⟩ := chT_at T (T 0) f s hn
  have e1 := c3 1 (by omega) (by omega) (by omega)
  have e2 := c3 2 (by omega) (by omega) (by omega)
  have e3 := c3 3 (by omega) (by omega) (by omega)
  have e4 := c3 4 (by omega) (by omega) (by omega)
  refine ⟨by omega, by omega, by omega, by omega, by omega, fun c hc => ?_, fun c h1 hc => ?_, fun c hc => ?_, fun g hg => ?_, fun g hg => ?_⟩
  · by_cases z : c = T 0
    · subst z; rw [c1, c2]; omega
    · rw [c3 _ (by omega) (by omega) (by omega), c3 _ (by omega) (by omega) (by omega)]; exact a5 c hc
  · rw [c0] at h1
    rw [c3 _ (by omega) (by omega) (by omega), c3 _ (by omega) (by omega) (by omega)]; exact a6 c (by omega) hc
  · rw [c3 _ (by omega) (by omega) (by omega)]; exact a7 c hc
  · omega
  · rw [c3 _ (by omega) (by omega) (by omega), c3 _ (by omega) (by omega) (by omega)]; exact a9 g hg
theorem grT_at (T : Tn) (n s r f p : Nat) (hn : n < 6) : grT T n s r f p 1 = n + 1 ∧ grT T n s r f p (20 + n) = s ∧ grT T n s r f p (26 + n) = r ∧ grT T n s r f p (32 + n) = f ∧ grT T n s r f p (38 + n) = p ∧ ∀ j, j ≠ 1 → j ≠ 20 + n → j ≠ 26 + n → j ≠ 32 + n → j ≠ 38 + n → grT T n s r f p j = T j := by
  unfold grT
  refine ⟨up_same _ _ _, ?_, ?_, ?_, ?_, fun j h1 h2 h3 h4 h5 => ?_⟩
  · rw [up_ne (by omega), up_ne (by omega), up_ne (by omega), up_ne (by omega), up_same]
  · rw [up_ne (by omega), up_ne (by omega), up_ne (by omega), up_same]
  · rw [up_ne (by omega), up_ne (by omega), up_same]
  · rw [up_ne (by omega), up_same]
  · rw [up_ne h1, up_ne h5, up_ne h4, up_ne h3, up_ne h2]
theorem PT.gr {T : Tn} {s r f p : Nat} (H : PT T) (hn : T 1 < 6) (hs : 1 ≤ s ∧ s ≤ 5) (hr : r ≤ 9) (hf : f < T 0) (hp : p ≤ 4) : PT (grT T (T 1) s r f p) := by
  obtain ⟨a0, a1, a2, a3, a4, a5, a6, a7, a8, a9⟩ := H
  obtain ⟨c0, c1, c2, c3, c4, c5⟩ := grT_at T (T 1) s r f p hn
  have e0 := c5 0 (by omega) (by omega) (by omega) (by omega) (by omega)
  have e2 := c5 2 (by omega) (by omega) (by omega) (by omega) (by omega)
  have e3 := c5 3 (by omega) (by omega) (by omega) (by omega) (by omega)
  have e4 := c5 4 (by omega) (by omega) (by omega) (by omega) (by omega)
  refine ⟨by omega, by omega, by omega, by omega, by omega, fun c hc => ?_, fun c h1 hc => ?_, fun c hc => ?_, fun g hg => ?_, fun g hg => ?_⟩
  · rw [c5 _ (by omega) (by omega) (by omega) (by omega) (by omega), c5 _ (by omega) (by omega) (by omega) (by omega) (by omega)]; exact a5 c hc
  · rw [c5 _ (by omega) (by omega) (by omega) (by omega) (by omega), c5 _ (by omega) (by omega) (by omega) (by omega) (by omega)]; exact a6 c (by omega) hc
  · rw [c5 _ (by omega) (by omega) (by omega) (by omega) (by omega)]; exact a7 c hc
  · by_cases z : g = T 1
    · subst z; rw [c1, c2, c3, c4, e0]; exact ⟨hs, hr, hf, hp⟩
    · rw [c5 (20 + g) (by omega) (by omega) (by omega) (by omega) (by omega), c5 (26 + g) (by omega) (by omega) (by omega) (by omega) (by omega), c5 (32 + g) (by omega) (by omega) (by omega) (by omega) (by omega), c5 (38 + g) (by omega) (by omega) (by omega) (by omega) (by omega), e0]; exact a8 g (by omega)
  · rw [c5 _ (by omega) (by omega) (by omega) (by omega) (by omega), c5 _ (by omega) (by omega) (by omega) (by omega) (by omega)]; exact a9 g hg
section DREAD3
variable {G : Gt} {d : Nat} {h : Hp} {B : List Nat} {f a : Nat} {T : Tn}
theorem TW.ch {h' : Hp} {v s : Nat} (hW : TW h 15 T) (hn : T 0 < 5) (h1 : T 1 = 0) (ht : T (15 + T 0) = 0) (e0 : h' 15 2 = nI (T 0 + 1)) (e1 : ∀ i, i ≠ 2 → h' 15 i = h 15 i) (f1 : h' 16 (T 0) = nI v) (f2 : h' 17 (T 0) = nI s) (f3 : h' 18 (T 0) = nI 0) (g : ∀ q i, 16 ≤ q → q ≤ 18 → i ≠ T 0 → h' q i = h q i) : TW h' 15 (chT T (T 0) v s) := by
  obtain ⟨c0, c1, c2, c3⟩ := chT_at T (T 0) v s hn
  obtain ⟨a0, a1, a2, a3, a4, a5, a6, a7, a8, a9, a10, a11, a12, a13⟩ := hW
  have q1 := c3 1 (by omega) (by omega) (by omega)
  unfold TW
  rw [c0, q1, h1, c3 2 (by omega) (by omega) (by omega), c3 3 (by omega) (by omega) (by omega), c3 4 (by omega) (by omega) (by omega)]
  refine ⟨by rw [e1 _ (by decide)]; exact a0, by rw [e1 _ (by decide)]; exact a1, e0, by rw [e1 _ (by decide), ← h1]; exact a3, by rw [e1 _ (by decide)]; exact a4, fun c hc => ?_, fun c hc => ?_, fun c hc => ?_, fun g hg => absurd hg (by omega), fun g hg => absurd hg (by omega), fun g hg => absurd hg (by omega), fun g hg => absurd hg (by omega), fun g hg => absurd hg (by omega), fun g hg => absurd hg (by omega)⟩
  · by_cases z : c = T 0
    · subst z; rw [c1]; exact f1
    · rw [c3 _ (by omega) (by omega) (by omega)]; exact (g 16 c (by omega) (by omega) z).trans (a5 c (by omega))
  · by_cases z : c = T 0
    · subst z; rw [c2]; exact f2
    · rw [c3 _ (by omega) (by omega) (by omega)]; exact (g 17 c (by omega) (by omega) z).trans (a6 c (by omega))
  · rw [c3 _ (by omega) (by omega) (by omega)]
    by_cases z : c = T 0
    · subst z; rw [ht]; exact f3
    · exact (g 18 c (by omega) (by omega) z).trans (a7 c (by omega))
theorem TW.gr {h' : Hp} {s r v p : Nat} (hW : TW h 15 T) (h5 : T 0 ≤ 5) (hn : T 1 < 6) (ht : T (44 + T 1) = 0 ∧ T (50 + T 1) = 0) (e0 : h' 15 3 = nI (T 1 + 1)) (e1 : ∀ i, i ≠ 3 → h' 15 i = h 15 i) (e2 : ∀ q, 16 ≤ q → q ≤ 18 → h' q = h q) (f1 : h' 19 (T 1) = nI s) (f2 : h' 20 (T 1) = nI r) (f3 : h' 21 (T 1) = nI v) (f4 : h' 22 (T 1) = nI p) (f5 : h' 23 (T 1) = nI 0) (f6 : h' 24 (T 1) = nI 0) (g : ∀ q i, 19 ≤ q → q ≤ 24 → i ≠ T 1 → h' q i = h q i) : TW h' 15 (grT T (T 1) s r v p) := by
  obtain ⟨c0, c1, c2, c3, c4, c5⟩ := grT_at T (T 1) s r v p hn
  obtain ⟨a0, a1, a2, a3, a4, a5, a6, a7, a8, a9, a10, a11, a12, a13⟩ := hW
  have q0 := c5 0 (by omega) (by omega) (by omega) (by omega) (by omega)
  unfold TW
  rw [c0, q0, c5 2 (by omega) (by omega) (by omega) (by omega) (by omega), c5 3 (by omega) (by omega) (by omega) (by omega) (by omega), c5 4 (by omega) (by omega) (by omega) (by omega) (by omega), e2 16 (by omega) (by omega), e2 17 (by omega) (by omega), e2 18 (by omega) (by omega)]
  refine ⟨by rw [e1 _ (by decide)]; exact a0, by rw [e1 _ (by decide)]; exact a1, by rw [e1 _ (by decide)]; exact a2, e0, by rw [e1 _ (by decide)]; exact a4, fun c hc => ?_, fun c hc => ?_, fun c hc => ?_, fun j hj => ?_, fun j hj => ?_, fun j hj => ?_, fun j hj => ?_, fun j hj => ?_, fun j hj => ?_⟩
  · rw [c5 _ (by omega) (by omega) (by omega) (by omega) (by omega)]; exact a5 c hc
  · rw [c5 _ (by omega) (by omega) (by omega) (by omega) (by omega)]; exact a6 c hc
  · rw [c5 _ (by omega) (by omega) (by omega) (by omega) (by omega)]; exact a7 c hc
  · by_cases z : j = T 1
    · subst z; rw [c1]; exact f1
    · rw [c5 _ (by omega) (by omega) (by omega) (by omega) (by omega)]; exact (g 19 j (by omega) (by omega) z).trans (a8 j (by omega))
  · by_cases z : j = T 1
    · subst z; rw [c2]; exact f2
    · rw [c5 _ (by omega) (by omega) (by omega) (by omega) (by omega)]; exact (g 20 j (by omega) (by omega) z).trans (a9 j (by omega))
  · by_cases z : j = T 1
    · subst z; rw [c3]; exact f3
    · rw [c5 _ (by omega) (by omega) (by omega) (by omega) (by omega)]; exact (g 21 j (by omega) (by omega) z).trans (a10 j (by omega))
  · by_cases z : j = T 1
    · subst z; rw [c4]; exact f4
    · rw [c5 _ (by omega) (by omega) (by omega) (by omega) (by omega)]; exact (g 22 j (by omega) (by omega) z).trans (a11 j (by omega))
  · rw [c5 _ (by omega) (by omega) (by omega) (by omega) (by omega)]
    by_cases z : j = T 1
    · subst z; rw [ht.1]; exact f5
    · exact (g 23 j (by omega) (by omega) z).trans (a12 j (by omega))
  · rw [c5 _ (by omega) (by omega) (by omega) (by omega) (by omega)]
    by_cases z : j = T 1
    · subst z; rw [ht.2]; exact f6
    · exact (g 24 j (by omega) (by omega) z).trans (a13 j (by omega))
theorem sp_sign {c : Nat} {K : Hp → Prop} (hX : RX h B 0 a) (hB : OB B) (ha : a ≤ B.length) (hc : c < 256) (k1 : B[a]? = some c → (∀ k, rS B c a k = k (a + 1)) → a + 1 ≤ B.length → ∀ h', RX h' B 0 (a + 1) → (∀ q, q ≠ 13 → h' q = h q) → K h') (k0 : ¬ B[a]? = some c → (∀ k, rS B c a k = rno 1 a) → ∀ h', RX h' B 1 a → (∀ q, q ≠ 13 → h' q = h q) → K h') : Call G (d + 1) mX2_takeSign [.ref 13, .int (nI c)] h (pV K) :=
  sp_takeSign hX hB ha hc (fun e => k1 e (fun _ => rS_t e)) (fun e => k0 e (fun _ => rS_f e))
theorem sp_num {lo hi : Nat} {K : Int32 → Hp → Prop} (hX : RX h B 0 a) (hB : OB B) (ha : a ≤ B.length) (hlo : lo < 2 ^ 31) (hhi : hi < 2 ^ 31)
    (k1 : lo ≤ nv B a → nv B a ≤ hi → (∀ k, rN B lo hi a k = k (nv B a) (a + nz B a)) → a + nz B a ≤ B.length → ∀ h', RX h' B 0 (a + nz B a) → (∀ q, q ≠ 13 → h' q = h q) → K (nI (nv B a)) h')
    (k0 : ∀ w, ¬ w = 0 → w ≤ 3 → (∀ k, rN B lo hi a k = rno w a) → ∀ x h', RX h' B w a → (∀ q, q ≠ 13 → h' q = h q) → K x h') : Call G (d + 1) mX2_takeNumber [.ref 13, .int (nI lo), .int (nI hi)] h (pI K) := by
  have e1 := nI_toInt hlo
  have e2 := nI_toInt hhi
  refine sp_takeNumber hX hB ha (by omega) (fun z => absurd rfl z) (fun _ q x h' r e => ?_) (fun _ q z x h' r e => ?_) (fun _ q z h' r e => ?_)
  · exact k0 1 (by omega) (by omega) (fun _ => rN_1 q) x h' r e
  · exact k0 2 (by omega) (by omega) (fun _ => rN_2 q (fun y => z (by rw [e1, e2]; omega))) x h' r e
  · rw [e1, e2] at z
    exact k1 (by omega) (by omega) (fun _ => rN_t q (by omega)) (nv_lt q).2.1 h' r e
theorem sp_numF {lo hi : Int32} {K : Int32 → Hp → Prop} (hX : RX h B f a) (hB : OB B) (ha : a ≤ B.length) (hf : f ≤ 3) (hf0 : ¬ f = 0) (k : ∀ x, K x h) : Call G (d + 1) mX2_takeNumber [.ref 13, .int lo, .int hi] h (pI K) :=
  sp_takeNumber hX hB ha hf (fun _ => k) (fun z => absurd z hf0) (fun z => absurd z hf0) (fun z => absurd z hf0)
def FL (h h' : Hp) : Prop := (∀ q, q ≠ 13 → q ≠ 15 → h' q = h q) ∧ ∀ i, 2 ≤ i → h' 15 i = h 15 i
theorem FL.rf (h : Hp) : FL h h := ⟨fun _ _ _ => rfl, fun _ _ => rfl⟩
theorem FL.e {h1 h2 : Hp} (x : FL h h1) (e : ∀ q, q ≠ 13 → h2 q = h1 q) : FL h h2 := ⟨fun q q1 q2 => (e q q1).trans (x.1 q q1 q2), fun i hi => by rw [e 15 (by decide)]; exact x.2 i hi⟩
theorem FL.hs {h1 : Hp} {i : Nat} {v : Int32} (x : FL h h1) (hi : i < 2) : FL h (hs h1 15 i v) := ⟨fun q q1 q2 => (hs_ne q2).trans (x.1 q q1 q2), fun j hj => (hs_ix (by omega)).trans (x.2 j hj)⟩
theorem rx_15 {i : Nat} {v : Int32} (hX : RX h B f a) : RX (hs h 15 i v) B f a := hX.cg (hs_ne (by decide)) (hs_ne (by decide))
theorem rx_q {q i : Nat} {v : Int32} (hX : RX h B f a) (hq : 15 ≤ q) : RX (hs h q i v) B f a := hX.cg (hs_ne (by omega)) (hs_ne (by omega))
theorem sp_readLaw {K : Hp → Prop} (hX : RX h B 0 0) (hB : OB B)
    (kO : ∀ h' e p a', (∀ k, rLaw B k = k (up (up zT 2 e) 3 p) a') → e ≤ 9 → (1 ≤ p ∧ p ≤ 6) → a' ≤ B.length → RX h' B 0 a' → h' 15 0 = nI e → h' 15 1 = nI p → FL h h' → K h')
    (kF : ∀ h' w a', (∀ k, rLaw B k = rno w a') → ¬ w = 0 → w ≤ 3 → a' ≤ B.length → RX h' B w a' → FL h h' → K h') : Call G (d + 2) mX2_readLaw [.ref 13] h (pV K) := by
  refine Call.of (M := mX2_readLaw) (n := 0) (by decide +kernel) rfl ?_
  show WP _ _ _ _ 0 [some (.ref 13)] [] _
  refine wp_aload_n (pc := 0) (i := 0) dX2_readLaw_0 rfl rfl ?_
  refine wp_bipush (pc := 1) (v := nI 108) dX2_readLaw_1 rfl ?_
  refine wp_cV1v (pc := 3) lk_X2_50 dX2_readLaw_3 rfl rfl rfl (sp_sign hX hB (by omega) (by omega) (fun b0 b1 l1 h1 hX1 e1 => ?_) (fun b0 b1 h1 hX1 e1 => ?_))
  rotate_left
  · refine wp_aload_n (pc := 6) (i := 0) dX2_readLaw_6 rfl rfl ?_
    refine wp_gfr (pc := 7) fk_X2_12 dX2_readLaw_7 rfl rfl (by decide) ?_
    refine wp_aload_n (pc := 10) (i := 0) dX2_readLaw_10 rfl rfl ?_
    refine wp_iconst (pc := 11) (v := nI 0) dX2_readLaw_11 rfl ?_
    refine wp_bipush (pc := 12) (v := nI 9) dX2_readLaw_12 rfl ?_
    refine wp_cV2i (pc := 14) lk_X2_54 dX2_readLaw_14 rfl rfl rfl (sp_numF hX1 hB (by omega) (by omega) (by omega) (fun x => ?_))
    refine wp_pf (pc := 17) fp_X2_58 dX2_readLaw_17 rfl rfl rfl rfl ?_
    refine wp_aload_n (pc := 20) (i := 0) dX2_readLaw_20 rfl rfl ?_
    refine wp_bipush (pc := 21) (v := nI 44) dX2_readLaw_21 rfl ?_
    refine wp_cV1v (pc := 23) lk_X2_50 dX2_readLaw_23 rfl rfl rfl (sp_takeSignF (rx_15 hX1) hB (by omega) (by omega) (by omega) ?_)
    refine wp_aload_n (pc := 26) (i := 0) dX2_readLaw_26 rfl rfl ?_
    refine wp_gfr (pc := 27) fk_X2_12 dX2_readLaw_27 rfl rfl (by decide) ?_
    refine wp_aload_n (pc := 30) (i := 0) dX2_readLaw_30 rfl rfl ?_
    refine wp_iconst (pc := 31) (v := nI 1) dX2_readLaw_31 rfl ?_
    refine wp_bipush (pc := 32) (v := nI 6) dX2_readLaw_32 rfl ?_
    refine wp_cV2i (pc := 34) lk_X2_54 dX2_readLaw_34 rfl rfl rfl (sp_numF (rx_15 hX1) hB (by omega) (by omega) (by omega) (fun y => ?_))
    refine wp_pf (pc := 37) fp_X2_61 dX2_readLaw_37 rfl rfl rfl rfl ?_
    refine wp_aload_n (pc := 40) (i := 0) dX2_readLaw_40 rfl rfl ?_
    refine wp_bipush (pc := 41) (v := nI 59) dX2_readLaw_41 rfl ?_
    refine wp_cV1v (pc := 43) lk_X2_50 dX2_readLaw_43 rfl rfl rfl (sp_takeSignF (rx_15 (rx_15 hX1)) hB (by omega) (by omega) (by omega) ?_)
    refine wp_vret (pc := 46) dX2_readLaw_46 rfl ?_
    rotate_left
    exact kF _ 1 0 (fun k => by rw [rLaw, b1]) (by omega) (by omega) (by omega) (rx_15 (rx_15 hX1)) ((((FL.rf h).e e1).hs (by omega)).hs (by omega))
  refine wp_aload_n (pc := 6) (i := 0) dX2_readLaw_6 rfl rfl ?_
  refine wp_gfr (pc := 7) fk_X2_12 dX2_readLaw_7 rfl rfl (by decide) ?_
  refine wp_aload_n (pc := 10) (i := 0) dX2_readLaw_10 rfl rfl ?_
  refine wp_iconst (pc := 11) (v := nI 0) dX2_readLaw_11 rfl ?_
  refine wp_bipush (pc := 12) (v := nI 9) dX2_readLaw_12 rfl ?_
  refine wp_cV2i (pc := 14) lk_X2_54 dX2_readLaw_14 rfl rfl rfl (sp_num hX1 hB l1 (by omega) (by omega) (fun n1 n2 b2 l2 h2 hX2 e2 => ?_) (fun w w0 w3 b2 x h2 hX2 e2 => ?_))
  rotate_left
  · refine wp_pf (pc := 17) fp_X2_58 dX2_readLaw_17 rfl rfl rfl rfl ?_
    refine wp_aload_n (pc := 20) (i := 0) dX2_readLaw_20 rfl rfl ?_
    refine wp_bipush (pc := 21) (v := nI 44) dX2_readLaw_21 rfl ?_
    refine wp_cV1v (pc := 23) lk_X2_50 dX2_readLaw_23 rfl rfl rfl (sp_takeSignF (rx_15 hX2) hB (by omega) w3 w0 ?_)
    refine wp_aload_n (pc := 26) (i := 0) dX2_readLaw_26 rfl rfl ?_
    refine wp_gfr (pc := 27) fk_X2_12 dX2_readLaw_27 rfl rfl (by decide) ?_
    refine wp_aload_n (pc := 30) (i := 0) dX2_readLaw_30 rfl rfl ?_
    refine wp_iconst (pc := 31) (v := nI 1) dX2_readLaw_31 rfl ?_
    refine wp_bipush (pc := 32) (v := nI 6) dX2_readLaw_32 rfl ?_
    refine wp_cV2i (pc := 34) lk_X2_54 dX2_readLaw_34 rfl rfl rfl (sp_numF (rx_15 hX2) hB (by omega) w3 w0 (fun y => ?_))
    refine wp_pf (pc := 37) fp_X2_61 dX2_readLaw_37 rfl rfl rfl rfl ?_
    refine wp_aload_n (pc := 40) (i := 0) dX2_readLaw_40 rfl rfl ?_
    refine wp_bipush (pc := 41) (v := nI 59) dX2_readLaw_41 rfl ?_
    refine wp_cV1v (pc := 43) lk_X2_50 dX2_readLaw_43 rfl rfl rfl (sp_takeSignF (rx_15 (rx_15 hX2)) hB (by omega) w3 w0 ?_)
    refine wp_vret (pc := 46) dX2_readLaw_46 rfl ?_
    rotate_left
    exact kF _ w _ (fun k => by rw [rLaw, b1, b2]) w0 w3 l1 (rx_15 (rx_15 hX2)) (((((FL.rf h).e e1).e e2).hs (by omega)).hs (by omega))
  refine wp_pf (pc := 17) fp_X2_58 dX2_readLaw_17 rfl rfl rfl rfl ?_
  refine wp_aload_n (pc := 20) (i := 0) dX2_readLaw_20 rfl rfl ?_
  refine wp_bipush (pc := 21) (v := nI 44) dX2_readLaw_21 rfl ?_
  refine wp_cV1v (pc := 23) lk_X2_50 dX2_readLaw_23 rfl rfl rfl (sp_sign (rx_15 hX2) hB l2 (by omega) (fun b0 b3 l3 h3 hX3 e3 => ?_) (fun b0 b3 h3 hX3 e3 => ?_))
  rotate_left
  · refine wp_aload_n (pc := 26) (i := 0) dX2_readLaw_26 rfl rfl ?_
    refine wp_gfr (pc := 27) fk_X2_12 dX2_readLaw_27 rfl rfl (by decide) ?_
    refine wp_aload_n (pc := 30) (i := 0) dX2_readLaw_30 rfl rfl ?_
    refine wp_iconst (pc := 31) (v := nI 1) dX2_readLaw_31 rfl ?_
    refine wp_bipush (pc := 32) (v := nI 6) dX2_readLaw_32 rfl ?_
    refine wp_cV2i (pc := 34) lk_X2_54 dX2_readLaw_34 rfl rfl rfl (sp_numF hX3 hB (by omega) (by omega) (by omega) (fun y => ?_))
    refine wp_pf (pc := 37) fp_X2_61 dX2_readLaw_37 rfl rfl rfl rfl ?_
    refine wp_aload_n (pc := 40) (i := 0) dX2_readLaw_40 rfl rfl ?_
    refine wp_bipush (pc := 41) (v := nI 59) dX2_readLaw_41 rfl ?_
    refine wp_cV1v (pc := 43) lk_X2_50 dX2_readLaw_43 rfl rfl rfl (sp_takeSignF (rx_15 hX3) hB (by omega) (by omega) (by omega) ?_)
    refine wp_vret (pc := 46) dX2_readLaw_46 rfl ?_
    rotate_left
    exact kF _ 1 _ (fun k => by rw [rLaw, b1, b2, b3]) (by omega) (by omega) l2 (rx_15 hX3) ((((((FL.rf h).e e1).e e2).hs (by omega)).e e3).hs (by omega))
  refine wp_aload_n (pc := 26) (i := 0) dX2_readLaw_26 rfl rfl ?_
  refine wp_gfr (pc := 27) fk_X2_12 dX2_readLaw_27 rfl rfl (by decide) ?_
  refine wp_aload_n (pc := 30) (i := 0) dX2_readLaw_30 rfl rfl ?_
  refine wp_iconst (pc := 31) (v := nI 1) dX2_readLaw_31 rfl ?_
  refine wp_bipush (pc := 32) (v := nI 6) dX2_readLaw_32 rfl ?_
  refine wp_cV2i (pc := 34) lk_X2_54 dX2_readLaw_34 rfl rfl rfl (sp_num hX3 hB l3 (by omega) (by omega) (fun n3 n4 b4 l4 h4 hX4 e4 => ?_) (fun w w0 w3 b4 x h4 hX4 e4 => ?_))
  rotate_left
  · refine wp_pf (pc := 37) fp_X2_61 dX2_readLaw_37 rfl rfl rfl rfl ?_
    refine wp_aload_n (pc := 40) (i := 0) dX2_readLaw_40 rfl rfl ?_
    refine wp_bipush (pc := 41) (v := nI 59) dX2_readLaw_41 rfl ?_
    refine wp_cV1v (pc := 43) lk_X2_50 dX2_readLaw_43 rfl rfl rfl (sp_takeSignF (rx_15 hX4) hB (by omega) w3 w0 ?_)
    refine wp_vret (pc := 46) dX2_readLaw_46 rfl ?_
    rotate_left
    exact kF _ w _ (fun k => by rw [rLaw, b1, b2, b3, b4]) w0 w3 l3 (rx_15 hX4) (((((((FL.rf h).e e1).e e2).hs (by omega)).e e3).e e4).hs (by omega))
  refine wp_pf (pc := 37) fp_X2_61 dX2_readLaw_37 rfl rfl rfl rfl ?_
  refine wp_aload_n (pc := 40) (i := 0) dX2_readLaw_40 rfl rfl ?_
  refine wp_bipush (pc := 41) (v := nI 59) dX2_readLaw_41 rfl ?_
  refine wp_cV1v (pc := 43) lk_X2_50 dX2_readLaw_43 rfl rfl rfl (sp_sign (rx_15 hX4) hB l4 (by omega) (fun b0 b5 l5 h5 hX5 e5 => ?_) (fun b0 b5 h5 hX5 e5 => ?_))
  rotate_left
  · refine wp_vret (pc := 46) dX2_readLaw_46 rfl ?_
    rotate_left
    exact kF _ 1 _ (fun k => by rw [rLaw, b1, b2, b3, b4, b5]) (by omega) (by omega) l4 hX5 ((((((((FL.rf h).e e1).e e2).hs (by omega)).e e3).e e4).hs (by omega)).e e5)
  refine wp_vret (pc := 46) dX2_readLaw_46 rfl ?_
  rotate_left
  refine kO _ _ _ _ (fun k => by rw [rLaw, b1, b2, b3, b4, b5]) n2 ⟨n3, n4⟩ l5 hX5 ?_ ?_ ((((((((FL.rf h).e e1).e e2).hs (by omega)).e e3).e e4).hs (by omega)).e e5)
  · rw [e5 15 (by decide), hs_ix (by decide), e4 15 (by decide), e3 15 (by decide)]; exact hs_same _ _ _ _
  · rw [e5 15 (by decide)]; exact hs_same _ _ _ _
end DREAD3
