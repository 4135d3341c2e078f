/-! acts on pairs: both sides -/
theorem bz_setp {τ ad : Nat → Nat} {w u : Wd} {o : Nat} {bs ss : Nat → Int} {pb pb2 : Nat → PT} {P Q : Nat → Nat} {ct : Nat → Int} (hp : ∀ j, j < 3 → pb2 j = pb j) (hC : CS τ ad u bs ss pb2 P Q ct) (hk : KO τ w u) (ho : τ o = 199) (e : WdE) : BZ τ ad o w (wset u o e) bs ss pb P Q ct := ⟨⟨pb2, hp, hC.out ho e⟩, hk.km.out ho e⟩
def ACD (pb : Nat → PT) (ct : Nat → Int) (t : Nat) (D : PT) (c : Prop) (nv : Int) (pb1 : Nat → PT) (ct1 : Nat → Int) : Prop := (¬ c ∧ nv = -9 ∧ pb1 = pb ∧ ct1 = iup ct 3 (ct 3 + 1)) ∨ (c ∧ nv = bI (¬ pb t = D) ∧ pb1 = pup pb t D ∧ ct1 = iup ct 1 (ct 1 + 1))
theorem act_d {τ ad : Nat → Nat} {w' : Wd} {bs ss : Nat → Int} {pb : Nat → PT} {P Q : Nat → Nat} {ct : Nat → Int} {t : Nat} {D : PT} {c : Prop} {zz : Int} (h : ACTP τ ad w' bs ss pb P Q ct t D c (some (iI zz))) (hz : -2147483648 ≤ zz ∧ zz < 2147483648) : ∃ (pb1 : Nat → PT) (ct1 : Nat → Int), ACD pb ct t D c zz pb1 ct1 ∧ ∃ pb2 : Nat → PT, (∀ j, j < 3 → pb2 j = pb1 j) ∧ CS τ ad w' bs ss pb2 P Q ct1 := by
  rcases h with ⟨h1, h2, pb2, h3, h4⟩ | ⟨h1, h2, pb2, h3, h4⟩
  · exact ⟨pb, _, Or.inl ⟨h1, iI_inj (Option.some.inj h2) hz (by omega), rfl, rfl⟩, pb2, h3, h4⟩
  · exact ⟨_, _, Or.inr ⟨h1, iI_inj (Option.some.inj h2) hz (by have := bI_01 (¬ pb t = D); omega), rfl, rfl⟩, pb2, h3, h4⟩
theorem act_b {bs ss ba st pm le ri ct cm : Nat → Int} {pb : Nat → PT} {P Q : Nat → Nat} {sp : Nat → Nat → Int} (hr : RLx bs ss pb P Q ct ba st pm le ri sp cm) {T : Nat} (hT : T < 3) {D : PT} {c : Prop} {nv ans : Int} {pb1 : Nat → PT} {ct1 : Nat → Int} (hA : ACD pb ct T D c nv pb1 ct1) {b x y : Int} {pm' le' ri' cm' : Nat → Int} {c' : Prop} (hD : c → D = (b, x, y)) (hc : c ↔ c')
    (hm : (¬ c' ∧ ans = -9 ∧ pm' = pm ∧ le' = le ∧ ri' = ri ∧ cm' = iup cm 3 (cm 3 + 1)) ∨ (c' ∧ ans = bI (¬ (pm T = b ∧ le T = x ∧ ri T = y)) ∧ pm' = iup pm T b ∧ le' = iup le T x ∧ ri' = iup ri T y ∧ cm' = iup cm 1 (cm 1 + 1))) : RLx bs ss pb1 P Q ct1 ba st pm' le' ri' sp cm' ∧ nv = ans := by
  have h4 := hr.2.2
  rcases hA with ⟨n, e, a1, a2⟩ | ⟨n, e, a1, a2⟩
  · rcases hm with ⟨-, e', c1, c2, c3, c4⟩ | ⟨n', -⟩
    · subst a1 a2 c1 c2 c3 c4
      exact ⟨rl_c hr (ctu h4 (by omega)), e.trans e'.symm⟩
    · exact (n (hc.mpr n')).elim
  · rcases hm with ⟨n', -⟩ | ⟨-, e', c1, c2, c3, c4⟩
    · exact (n' (hc.mp n)).elim
    · have hD := hD n
      subst a1 a2 c1 c2 c3 c4 hD
      refine ⟨⟨hr.1, fun j hj => ?_, ctu h4 (by omega)⟩, ?_⟩
      · by_cases q : j = T
        · subst q; rw [pup_s, iup_s, iup_s, iup_s]
        · rw [pup_n q, iup_n q, iup_n q, iup_n q]; exact hr.2.1 j hj
      · rw [e, e', hr.2.1 T hT]
        have hiff : ((pm T, le T, ri T) : PT) = (b, x, y) ↔ pm T = b ∧ le T = x ∧ ri T = y := ⟨fun q => ⟨congrArg (fun z : PT => z.1) q, congrArg (fun z : PT => z.2.1) q, congrArg (fun z : PT => z.2.2) q⟩, fun q => by rw [q.1, q.2.1, q.2.2]⟩
        by_cases q : ((pm T, le T, ri T) : PT) = (b, x, y)
        · rw [bI_f (fun z => z q), bI_f (fun z => z (hiff.mp q))]
        · rw [bI_t q, bI_t (show ¬ (pm T = b ∧ le T = x ∧ ri T = y) from fun z => q (hiff.mpr z))]
theorem rl_pb {bs ss ba st pm le ri ct cm : Nat → Int} {pb pb2 : Nat → PT} {P Q : Nat → Nat} {sp : Nat → Nat → Int} (hp : ∀ j, j < 3 → pb2 j = pb j) (hr : RLx bs ss pb P Q ct ba st pm le ri sp cm) : RLx bs ss pb2 P Q ct ba st pm le ri sp cm := ⟨hr.1, fun i hi => (hp i hi).trans (hr.2.1 i hi), hr.2.2⟩
theorem hp_sm {pm le ri : Nat → Int} {T : Nat} (hT : T < 3) {b x y : Int} (h : HPp (iup pm T b) (iup le T x) (iup ri T y)) : sm (b, x, y) := by
  have := h T hT
  rw [iup_s, iup_s, iup_s] at this
  exact fun q => q.elim this.2.1 this.2.2
def D_put (vi b x y : Int) (pb : Nat → PT) (ct : Nat → Int) (k nv : Int) (pb1 : Nat → PT) (ct1 : Nat → Int) : Prop := (¬ (0 ≤ vi ∧ vi ≤ 2) ∧ k = 1 ∧ pb1 = pb ∧ ct1 = ct) ∨ ((0 ≤ vi ∧ vi ≤ 2) ∧ ¬ (GB b ∧ (-1000 ≤ x ∧ x ≤ 1000) ∧ (-1000 ≤ y ∧ y ≤ 1000)) ∧ k = 2 ∧ pb1 = pb ∧ ct1 = ct) ∨ ((0 ≤ vi ∧ vi ≤ 2) ∧ (GB b ∧ (-1000 ≤ x ∧ x ≤ 1000) ∧ (-1000 ≤ y ∧ y ≤ 1000)) ∧ k = 0 ∧ ∃ D : PT, (D = (b, x, y)) ∧ ACD pb ct vi.toNat D (sm D) nv pb1 ct1)
set_option maxHeartbeats 1000000 in
theorem a_put {τ ad : Nat → Nat} {w w' : Wd} {o : Nat} {bs ss : Nat → Int} {pb : Nat → PT} {P Q : Nat → Nat} {ct : Nat → Int} (hC : CS τ ad w bs ss pb P Q ct) (ho : τ o = 199) (hO : OU w o) {vi b x y : Int} {r' : Option Value} (h : (¬ ((0 ≤ vi ∧ vi ≤ 2)) ∧ r' = some (iI 1) ∧ w.1 ≤ w'.1 ∧ w'.2 = w.2) ∨ (((0 ≤ vi ∧ vi ≤ 2)) ∧ ¬ (GB b ∧ (-1000 ≤ x ∧ x ≤ 1000) ∧ (-1000 ≤ y ∧ y ≤ 1000)) ∧ r' = some (iI 2) ∧ w.1 ≤ w'.1 ∧ w'.2 = w.2) ∨ (((0 ≤ vi ∧ vi ≤ 2)) ∧ (GB b ∧ (-1000 ≤ x ∧ x ≤ 1000) ∧ (-1000 ≤ y ∧ y ≤ 1000)) ∧ r' = some (iI 0) ∧ ∃ (i : Nat), vi = (i : Int) ∧ ∃ (zz : Int) (uu : Wd) (sv : Value), (-2147483648 ≤ zz ∧ zz < 2147483648) ∧ (∃ D : PT, (D = (b, x, y)) ∧ ACTP τ ad uu bs ss pb P Q ct i D (sm D) (some (iI zz)) ∧ KO τ w uu) ∧ w' = wset uu o (true, eO 9 [jJ zz, sv]))) : ∃ (k nv : Int) (pb1 : Nat → PT) (ct1 : Nat → Int), r' = some (iI k) ∧ OV w' o nv ∧ (k = 0 → -2147483648 ≤ nv ∧ nv < 2147483648) ∧ BZ τ ad o w w' bs ss pb1 P Q ct1 ∧ D_put vi b x y pb ct k nv pb1 ct1 := by
  obtain ⟨n0, s0, hO⟩ := hO
  rcases h with h | h | h
  · obtain ⟨hb, rfl, h1, h2⟩ := h
    exact ⟨1, n0, _, _, rfl, ⟨s0, by rw [h2]; exact hO⟩, fun h => absurd h (by omega), bz_same hC h1 h2, Or.inl ⟨hb, rfl, rfl, rfl⟩⟩
  · obtain ⟨hg, hb, rfl, h1, h2⟩ := h
    exact ⟨2, n0, _, _, rfl, ⟨s0, by rw [h2]; exact hO⟩, fun h => absurd h (by omega), bz_same hC h1 h2, Or.inr (Or.inl ⟨hg, hb, rfl, rfl, rfl⟩)⟩
  · obtain ⟨hg, hb, rfl, i, rfl, zz, uu, sv, hz, ⟨D, hd, hact, hk2⟩, rfl⟩ := h
    obtain ⟨pb1, ct1, hA, pb2, hp2, hC2⟩ := act_d hact hz
    exact ⟨0, zz, _, _, rfl, ⟨sv, wset_s⟩, fun _ => hz, bz_setp hp2 hC2 hk2 ho _, Or.inr (Or.inr ⟨hg, hb, rfl, D, hd, hA⟩)⟩
def D_take (vi vk : Int) (bs ss : Nat → Int) (pb : Nat → PT) (ct : Nat → Int) (k nv : Int) (pb1 : Nat → PT) (ct1 : Nat → Int) : Prop := (¬ ((0 ≤ vi ∧ vi ≤ 2) ∧ (0 ≤ vk ∧ vk ≤ 2)) ∧ k = 1 ∧ pb1 = pb ∧ ct1 = ct) ∨ (((0 ≤ vi ∧ vi ≤ 2) ∧ (0 ≤ vk ∧ vk ≤ 2)) ∧ k = 0 ∧ ∃ D : PT, (∃ r, RT (bs vi.toNat) r ∧ D = (bs vi.toNat, (pq (bs vi.toNat) r 1 r (ss vi.toNat).toNat).1, (pq (bs vi.toNat) r 0 1 (ss vi.toNat).toNat).1)) ∧ ACD pb ct vk.toNat D (sm D) nv pb1 ct1)
set_option maxHeartbeats 1000000 in
theorem a_take {τ ad : Nat → Nat} {w w' : Wd} {o : Nat} {bs ss : Nat → Int} {pb : Nat → PT} {P Q : Nat → Nat} {ct : Nat → Int} (hC : CS τ ad w bs ss pb P Q ct) (ho : τ o = 199) (hO : OU w o) {vi vk : Int} {r' : Option Value} (h : (¬ ((0 ≤ vi ∧ vi ≤ 2) ∧ (0 ≤ vk ∧ vk ≤ 2)) ∧ r' = some (iI 1) ∧ w.1 ≤ w'.1 ∧ w'.2 = w.2) ∨ (((0 ≤ vi ∧ vi ≤ 2) ∧ (0 ≤ vk ∧ vk ≤ 2)) ∧ r' = some (iI 0) ∧ ∃ (i : Nat) (k : Nat), vi = (i : Int) ∧ vk = (k : Int) ∧ ∃ (zz : Int) (uu : Wd) (sv : Value), (-2147483648 ≤ zz ∧ zz < 2147483648) ∧ (∃ D : PT, (∃ r, RT (bs i) r ∧ D = (bs i, (pq (bs i) r 1 r (ss i).toNat).1, (pq (bs i) r 0 1 (ss i).toNat).1)) ∧ ACTP τ ad uu bs ss pb P Q ct k D (sm D) (some (iI zz)) ∧ KO τ w uu) ∧ w' = wset uu o (true, eO 9 [jJ zz, sv]))) : ∃ (k nv : Int) (pb1 : Nat → PT) (ct1 : Nat → Int), r' = some (iI k) ∧ OV w' o nv ∧ (k = 0 → -2147483648 ≤ nv ∧ nv < 2147483648) ∧ BZ τ ad o w w' bs ss pb1 P Q ct1 ∧ D_take vi vk bs ss pb ct k nv pb1 ct1 := by
  obtain ⟨n0, s0, hO⟩ := hO
  rcases h with h | h
  · obtain ⟨hb, rfl, h1, h2⟩ := h
    exact ⟨1, n0, _, _, rfl, ⟨s0, by rw [h2]; exact hO⟩, fun h => absurd h (by omega), bz_same hC h1 h2, Or.inl ⟨hb, rfl, rfl, rfl⟩⟩
  · obtain ⟨hg, rfl, i, k, rfl, rfl, zz, uu, sv, hz, ⟨D, hd, hact, hk2⟩, rfl⟩ := h
    obtain ⟨pb1, ct1, hA, pb2, hp2, hC2⟩ := act_d hact hz
    exact ⟨0, zz, _, _, rfl, ⟨sv, wset_s⟩, fun _ => hz, bz_setp hp2 hC2 hk2 ho _, Or.inr (⟨hg, rfl, D, hd, hA⟩)⟩
def D_least (vi b : Int) (pb : Nat → PT) (ct : Nat → Int) (k nv : Int) (pb1 : Nat → PT) (ct1 : Nat → Int) : Prop := (¬ (0 ≤ vi ∧ vi ≤ 2) ∧ k = 1 ∧ pb1 = pb ∧ ct1 = ct) ∨ ((0 ≤ vi ∧ vi ≤ 2) ∧ ¬ GB b ∧ k = 2 ∧ pb1 = pb ∧ ct1 = ct) ∨ ((0 ≤ vi ∧ vi ≤ 2) ∧ GB b ∧ k = 0 ∧ ∃ D : PT, (∃ r, RT b r ∧ D = (b, leaP b r, leaQ b r)) ∧ ACD pb ct vi.toNat D (sm D) nv pb1 ct1)
set_option maxHeartbeats 1000000 in
theorem a_least {τ ad : Nat → Nat} {w w' : Wd} {o : Nat} {bs ss : Nat → Int} {pb : Nat → PT} {P Q : Nat → Nat} {ct : Nat → Int} (hC : CS τ ad w bs ss pb P Q ct) (ho : τ o = 199) (hO : OU w o) {vi b : Int} {r' : Option Value} (h : (¬ ((0 ≤ vi ∧ vi ≤ 2)) ∧ r' = some (iI 1) ∧ w.1 ≤ w'.1 ∧ w'.2 = w.2) ∨ (((0 ≤ vi ∧ vi ≤ 2)) ∧ ¬ (GB b) ∧ r' = some (iI 2) ∧ w.1 ≤ w'.1 ∧ w'.2 = w.2) ∨ (((0 ≤ vi ∧ vi ≤ 2)) ∧ (GB b) ∧ r' = some (iI 0) ∧ ∃ (i : Nat), vi = (i : Int) ∧ ∃ (zz : Int) (uu : Wd) (sv : Value), (-2147483648 ≤ zz ∧ zz < 2147483648) ∧ (∃ D : PT, (∃ r, RT b r ∧ D = (b, leaP b r, leaQ b r)) ∧ ACTP τ ad uu bs ss pb P Q ct i D (sm D) (some (iI zz)) ∧ KO τ w uu) ∧ w' = wset uu o (true, eO 9 [jJ zz, sv]))) : ∃ (k nv : Int) (pb1 : Nat → PT) (ct1 : Nat → Int), r' = some (iI k) ∧ OV w' o nv ∧ (k = 0 → -2147483648 ≤ nv ∧ nv < 2147483648) ∧ BZ τ ad o w w' bs ss pb1 P Q ct1 ∧ D_least vi b pb ct k nv pb1 ct1 := by
  obtain ⟨n0, s0, hO⟩ := hO
  rcases h with h | h | h
  · obtain ⟨hb, rfl, h1, h2⟩ := h
    exact ⟨1, n0, _, _, rfl, ⟨s0, by rw [h2]; exact hO⟩, fun h => absurd h (by omega), bz_same hC h1 h2, Or.inl ⟨hb, rfl, rfl, rfl⟩⟩
  · obtain ⟨hg, hb, rfl, h1, h2⟩ := h
    exact ⟨2, n0, _, _, rfl, ⟨s0, by rw [h2]; exact hO⟩, fun h => absurd h (by omega), bz_same hC h1 h2, Or.inr (Or.inl ⟨hg, hb, rfl, rfl, rfl⟩)⟩
  · obtain ⟨hg, hb, rfl, i, rfl, zz, uu, sv, hz, ⟨D, hd, hact, hk2⟩, rfl⟩ := h
    obtain ⟨pb1, ct1, hA, pb2, hp2, hC2⟩ := act_d hact hz
    exact ⟨0, zz, _, _, rfl, ⟨sv, wset_s⟩, fun _ => hz, bz_setp hp2 hC2 hk2 ho _, Or.inr (Or.inr ⟨hg, hb, rfl, D, hd, hA⟩)⟩
def D_compose (vi vk vn : Int) (pb : Nat → PT) (ct : Nat → Int) (k nv : Int) (pb1 : Nat → PT) (ct1 : Nat → Int) : Prop := (¬ ((0 ≤ vi ∧ vi ≤ 2) ∧ (0 ≤ vk ∧ vk ≤ 2) ∧ (0 ≤ vn ∧ vn ≤ 2)) ∧ k = 1 ∧ pb1 = pb ∧ ct1 = ct) ∨ (((0 ≤ vi ∧ vi ≤ 2) ∧ (0 ≤ vk ∧ vk ≤ 2) ∧ (0 ≤ vn ∧ vn ≤ 2)) ∧ k = 0 ∧ ∃ D : PT, (D = mulP (pb vi.toNat) (pb vk.toNat)) ∧ ACD pb ct vn.toNat D ((pb vi.toNat).1 = (pb vk.toNat).1 ∧ sm D) nv pb1 ct1)
set_option maxHeartbeats 1000000 in
theorem a_compose {τ ad : Nat → Nat} {w w' : Wd} {o : Nat} {bs ss : Nat → Int} {pb : Nat → PT} {P Q : Nat → Nat} {ct : Nat → Int} (hC : CS τ ad w bs ss pb P Q ct) (ho : τ o = 199) (hO : OU w o) {vi vk vn : Int} {r' : Option Value} (h : (¬ ((0 ≤ vi ∧ vi ≤ 2) ∧ (0 ≤ vk ∧ vk ≤ 2) ∧ (0 ≤ vn ∧ vn ≤ 2)) ∧ r' = some (iI 1) ∧ w.1 ≤ w'.1 ∧ w'.2 = w.2) ∨ (((0 ≤ vi ∧ vi ≤ 2) ∧ (0 ≤ vk ∧ vk ≤ 2) ∧ (0 ≤ vn ∧ vn ≤ 2)) ∧ r' = some (iI 0) ∧ ∃ (i : Nat) (k : Nat) (n : Nat), vi = (i : Int) ∧ vk = (k : Int) ∧ vn = (n : Int) ∧ ∃ (zz : Int) (uu : Wd) (sv : Value), (-2147483648 ≤ zz ∧ zz < 2147483648) ∧ (∃ D : PT, (D = mulP (pb i) (pb k)) ∧ ACTP τ ad uu bs ss pb P Q ct n D ((pb i).1 = (pb k).1 ∧ sm D) (some (iI zz)) ∧ KO τ w uu) ∧ w' = wset uu o (true, eO 9 [jJ zz, sv]))) : ∃ (k nv : Int) (pb1 : Nat → PT) (ct1 : Nat → Int), r' = some (iI k) ∧ OV w' o nv ∧ (k = 0 → -2147483648 ≤ nv ∧ nv < 2147483648) ∧ BZ τ ad o w w' bs ss pb1 P Q ct1 ∧ D_compose vi vk vn pb ct k nv pb1 ct1 := by
  obtain ⟨n0, s0, hO⟩ := hO
  rcases h with h | h
  · obtain ⟨hb, rfl, h1, h2⟩ := h
    exact ⟨1, n0, _, _, rfl, ⟨s0, by rw [h2]; exact hO⟩, fun h => absurd h (by omega), bz_same hC h1 h2, Or.inl ⟨hb, rfl, rfl, rfl⟩⟩
  · obtain ⟨hg, rfl, i, k, n, rfl, rfl, rfl, zz, uu, sv, hz, ⟨D, hd, hact, hk2⟩, rfl⟩ := h
    obtain ⟨pb1, ct1, hA, pb2, hp2, hC2⟩ := act_d hact hz
    exact ⟨0, zz, _, _, rfl, ⟨sv, wset_s⟩, fun _ => hz, bz_setp hp2 hC2 hk2 ho _, Or.inr (⟨hg, rfl, D, hd, hA⟩)⟩
def D_power (vi vz : Int) (pb : Nat → PT) (ct : Nat → Int) (k nv : Int) (pb1 : Nat → PT) (ct1 : Nat → Int) : Prop := (¬ (0 ≤ vi ∧ vi ≤ 2) ∧ k = 1 ∧ pb1 = pb ∧ ct1 = ct) ∨ ((0 ≤ vi ∧ vi ≤ 2) ∧ ¬ (0 ≤ vz ∧ vz ≤ 5) ∧ k = 2 ∧ pb1 = pb ∧ ct1 = ct) ∨ ((0 ≤ vi ∧ vi ≤ 2) ∧ (0 ≤ vz ∧ vz ≤ 5) ∧ k = 0 ∧ ∃ D : PT, (D = powT (pb vi.toNat) vz.toNat) ∧ ACD pb ct vi.toNat D (sm D) nv pb1 ct1)
set_option maxHeartbeats 1000000 in
theorem a_power {τ ad : Nat → Nat} {w w' : Wd} {o : Nat} {bs ss : Nat → Int} {pb : Nat → PT} {P Q : Nat → Nat} {ct : Nat → Int} (hC : CS τ ad w bs ss pb P Q ct) (ho : τ o = 199) (hO : OU w o) {vi vz : Int} {r' : Option Value} (h : (¬ ((0 ≤ vi ∧ vi ≤ 2)) ∧ r' = some (iI 1) ∧ w.1 ≤ w'.1 ∧ w'.2 = w.2) ∨ (((0 ≤ vi ∧ vi ≤ 2)) ∧ ¬ ((0 ≤ vz ∧ vz ≤ 5)) ∧ r' = some (iI 2) ∧ w.1 ≤ w'.1 ∧ w'.2 = w.2) ∨ (((0 ≤ vi ∧ vi ≤ 2)) ∧ ((0 ≤ vz ∧ vz ≤ 5)) ∧ r' = some (iI 0) ∧ ∃ (i : Nat) (z : Nat), vi = (i : Int) ∧ vz = (z : Int) ∧ ∃ (zz : Int) (uu : Wd) (sv : Value), (-2147483648 ≤ zz ∧ zz < 2147483648) ∧ (∃ D : PT, (D = powT (pb i) z) ∧ ACTP τ ad uu bs ss pb P Q ct i D (sm D) (some (iI zz)) ∧ KO τ w uu) ∧ w' = wset uu o (true, eO 9 [jJ zz, sv]))) : ∃ (k nv : Int) (pb1 : Nat → PT) (ct1 : Nat → Int), r' = some (iI k) ∧ OV w' o nv ∧ (k = 0 → -2147483648 ≤ nv ∧ nv < 2147483648) ∧ BZ τ ad o w w' bs ss pb1 P Q ct1 ∧ D_power vi vz pb ct k nv pb1 ct1 := by
  obtain ⟨n0, s0, hO⟩ := hO
  rcases h with h | h | h
  · obtain ⟨hb, rfl, h1, h2⟩ := h
    exact ⟨1, n0, _, _, rfl, ⟨s0, by rw [h2]; exact hO⟩, fun h => absurd h (by omega), bz_same hC h1 h2, Or.inl ⟨hb, rfl, rfl, rfl⟩⟩
  · obtain ⟨hg, hb, rfl, h1, h2⟩ := h
    exact ⟨2, n0, _, _, rfl, ⟨s0, by rw [h2]; exact hO⟩, fun h => absurd h (by omega), bz_same hC h1 h2, Or.inr (Or.inl ⟨hg, hb, rfl, rfl, rfl⟩)⟩
  · obtain ⟨hg, hb, rfl, i, z, rfl, rfl, zz, uu, sv, hz, ⟨D, hd, hact, hk2⟩, rfl⟩ := h
    obtain ⟨pb1, ct1, hA, pb2, hp2, hC2⟩ := act_d hact hz
    exact ⟨0, zz, _, _, rfl, ⟨sv, wset_s⟩, fun _ => hz, bz_setp hp2 hC2 hk2 ho _, Or.inr (Or.inr ⟨hg, hb, rfl, D, hd, hA⟩)⟩
def D_mirror (vi y : Int) (pb : Nat → PT) (ct : Nat → Int) (k nv : Int) (pb1 : Nat → PT) (ct1 : Nat → Int) : Prop := (¬ (0 ≤ vi ∧ vi ≤ 2) ∧ k = 1 ∧ pb1 = pb ∧ ct1 = ct) ∨ ((0 ≤ vi ∧ vi ≤ 2) ∧ k = 0 ∧ ∃ D : PT, (∃ v : Int, (y = 1 ∧ v = -(pb vi.toNat).2.1 ∨ y = 0 ∧ v = (pb vi.toNat).2.1) ∧ D = ((pb vi.toNat).1, v, -(pb vi.toNat).2.2)) ∧ ACD pb ct vi.toNat D (sm D) nv pb1 ct1)
set_option maxHeartbeats 1000000 in
theorem a_mirror {τ ad : Nat → Nat} {w w' : Wd} {o : Nat} {bs ss : Nat → Int} {pb : Nat → PT} {P Q : Nat → Nat} {ct : Nat → Int} (hC : CS τ ad w bs ss pb P Q ct) (ho : τ o = 199) (hO : OU w o) {vi y : Int} {r' : Option Value} (h : (¬ ((0 ≤ vi ∧ vi ≤ 2)) ∧ r' = some (iI 1) ∧ w.1 ≤ w'.1 ∧ w'.2 = w.2) ∨ (((0 ≤ vi ∧ vi ≤ 2)) ∧ r' = some (iI 0) ∧ ∃ (i : Nat), vi = (i : Int) ∧ ∃ (zz : Int) (uu : Wd) (sv : Value), (-2147483648 ≤ zz ∧ zz < 2147483648) ∧ (∃ D : PT, (∃ v : Int, (y = 1 ∧ v = -(pb i).2.1 ∨ y = 0 ∧ v = (pb i).2.1) ∧ D = ((pb i).1, v, -(pb i).2.2)) ∧ ACTP τ ad uu bs ss pb P Q ct i D (sm D) (some (iI zz)) ∧ KO τ w uu) ∧ w' = wset uu o (true, eO 9 [jJ zz, sv]))) : ∃ (k nv : Int) (pb1 : Nat → PT) (ct1 : Nat → Int), r' = some (iI k) ∧ OV w' o nv ∧ (k = 0 → -2147483648 ≤ nv ∧ nv < 2147483648) ∧ BZ τ ad o w w' bs ss pb1 P Q ct1 ∧ D_mirror vi y pb ct k nv pb1 ct1 := by
  obtain ⟨n0, s0, hO⟩ := hO
  rcases h with h | h
  · obtain ⟨hb, rfl, h1, h2⟩ := h
    exact ⟨1, n0, _, _, rfl, ⟨s0, by rw [h2]; exact hO⟩, fun h => absurd h (by omega), bz_same hC h1 h2, Or.inl ⟨hb, rfl, rfl, rfl⟩⟩
  · obtain ⟨hg, rfl, i, rfl, zz, uu, sv, hz, ⟨D, hd, hact, hk2⟩, rfl⟩ := h
    obtain ⟨pb1, ct1, hA, pb2, hp2, hC2⟩ := act_d hact hz
    exact ⟨0, zz, _, _, rfl, ⟨sv, wset_s⟩, fun _ => hz, bz_setp hp2 hC2 hk2 ho _, Or.inr (⟨hg, rfl, D, hd, hA⟩)⟩
def D_divideBy (vi z : Int) (pb : Nat → PT) (ct : Nat → Int) (k nv : Int) (pb1 : Nat → PT) (ct1 : Nat → Int) : Prop := (¬ (0 ≤ vi ∧ vi ≤ 2) ∧ k = 1 ∧ pb1 = pb ∧ ct1 = ct) ∨ ((0 ≤ vi ∧ vi ≤ 2) ∧ ¬ (-99 ≤ z ∧ z ≤ 99) ∧ k = 2 ∧ pb1 = pb ∧ ct1 = ct) ∨ ((0 ≤ vi ∧ vi ≤ 2) ∧ (-99 ≤ z ∧ z ≤ 99) ∧ k = 0 ∧ ∃ D : PT, (dvC (pb vi.toNat) z → D.1 = (pb vi.toNat).1 ∧ D.2.1 * z = (pb vi.toNat).2.1 ∧ D.2.2 * z = (pb vi.toNat).2.2) ∧ ACD pb ct vi.toNat D (dvC (pb vi.toNat) z) nv pb1 ct1)
set_option maxHeartbeats 1000000 in
theorem a_divideBy {τ ad : Nat → Nat} {w w' : Wd} {o : Nat} {bs ss : Nat → Int} {pb : Nat → PT} {P Q : Nat → Nat} {ct : Nat → Int} (hC : CS τ ad w bs ss pb P Q ct) (ho : τ o = 199) (hO : OU w o) {vi z : Int} {r' : Option Value} (h : (¬ ((0 ≤ vi ∧ vi ≤ 2)) ∧ r' = some (iI 1) ∧ w.1 ≤ w'.1 ∧ w'.2 = w.2) ∨ (((0 ≤ vi ∧ vi ≤ 2)) ∧ ¬ ((-99 ≤ z ∧ z ≤ 99)) ∧ r' = some (iI 2) ∧ w.1 ≤ w'.1 ∧ w'.2 = w.2) ∨ (((0 ≤ vi ∧ vi ≤ 2)) ∧ ((-99 ≤ z ∧ z ≤ 99)) ∧ r' = some (iI 0) ∧ ∃ (i : Nat), vi = (i : Int) ∧ ∃ (zz : Int) (uu : Wd) (sv : Value), (-2147483648 ≤ zz ∧ zz < 2147483648) ∧ (∃ D : PT, (dvC (pb i) z → D.1 = (pb i).1 ∧ D.2.1 * z = (pb i).2.1 ∧ D.2.2 * z = (pb i).2.2) ∧ ACTP τ ad uu bs ss pb P Q ct i D (dvC (pb i) z) (some (iI zz)) ∧ KO τ w uu) ∧ w' = wset uu o (true, eO 9 [jJ zz, sv]))) : ∃ (k nv : Int) (pb1 : Nat → PT) (ct1 : Nat → Int), r' = some (iI k) ∧ OV w' o nv ∧ (k = 0 → -2147483648 ≤ nv ∧ nv < 2147483648) ∧ BZ τ ad o w w' bs ss pb1 P Q ct1 ∧ D_divideBy vi z pb ct k nv pb1 ct1 := by
  obtain ⟨n0, s0, hO⟩ := hO
  rcases h with h | h | h
  · obtain ⟨hb, rfl, h1, h2⟩ := h
    exact ⟨1, n0, _, _, rfl, ⟨s0, by rw [h2]; exact hO⟩, fun h => absurd h (by omega), bz_same hC h1 h2, Or.inl ⟨hb, rfl, rfl, rfl⟩⟩
  · obtain ⟨hg, hb, rfl, h1, h2⟩ := h
    exact ⟨2, n0, _, _, rfl, ⟨s0, by rw [h2]; exact hO⟩, fun h => absurd h (by omega), bz_same hC h1 h2, Or.inr (Or.inl ⟨hg, hb, rfl, rfl, rfl⟩)⟩
  · obtain ⟨hg, hb, rfl, i, rfl, zz, uu, sv, hz, ⟨D, hd, hact, hk2⟩, rfl⟩ := h
    obtain ⟨pb1, ct1, hA, pb2, hp2, hC2⟩ := act_d hact hz
    exact ⟨0, zz, _, _, rfl, ⟨sv, wset_s⟩, fun _ => hz, bz_setp hp2 hC2 hk2 ho _, Or.inr (Or.inr ⟨hg, hb, rfl, D, hd, hA⟩)⟩
def D_pairCopy (vi vk : Int) (pb : Nat → PT) (ct : Nat → Int) (k nv : Int) (pb1 : Nat → PT) (ct1 : Nat → Int) : Prop := (¬ ((0 ≤ vi ∧ vi ≤ 2) ∧ (0 ≤ vk ∧ vk ≤ 2)) ∧ k = 1 ∧ pb1 = pb ∧ ct1 = ct) ∨ (((0 ≤ vi ∧ vi ≤ 2) ∧ (0 ≤ vk ∧ vk ≤ 2)) ∧ k = 0 ∧ ∃ D : PT, (D = pb vi.toNat) ∧ ACD pb ct vk.toNat D (sm D) nv pb1 ct1)
set_option maxHeartbeats 1000000 in
theorem a_pairCopy {τ ad : Nat → Nat} {w w' : Wd} {o : Nat} {bs ss : Nat → Int} {pb : Nat → PT} {P Q : Nat → Nat} {ct : Nat → Int} (hC : CS τ ad w bs ss pb P Q ct) (ho : τ o = 199) (hO : OU w o) {vi vk : Int} {r' : Option Value} (h : (¬ ((0 ≤ vi ∧ vi ≤ 2) ∧ (0 ≤ vk ∧ vk ≤ 2)) ∧ r' = some (iI 1) ∧ w.1 ≤ w'.1 ∧ w'.2 = w.2) ∨ (((0 ≤ vi ∧ vi ≤ 2) ∧ (0 ≤ vk ∧ vk ≤ 2)) ∧ r' = some (iI 0) ∧ ∃ (i : Nat) (k : Nat), vi = (i : Int) ∧ vk = (k : Int) ∧ ∃ (zz : Int) (uu : Wd) (sv : Value), (-2147483648 ≤ zz ∧ zz < 2147483648) ∧ (∃ D : PT, (D = pb i) ∧ ACTP τ ad uu bs ss pb P Q ct k D (sm D) (some (iI zz)) ∧ KO τ w uu) ∧ w' = wset uu o (true, eO 9 [jJ zz, sv]))) : ∃ (k nv : Int) (pb1 : Nat → PT) (ct1 : Nat → Int), r' = some (iI k) ∧ OV w' o nv ∧ (k = 0 → -2147483648 ≤ nv ∧ nv < 2147483648) ∧ BZ τ ad o w w' bs ss pb1 P Q ct1 ∧ D_pairCopy vi vk pb ct k nv pb1 ct1 := by
  obtain ⟨n0, s0, hO⟩ := hO
  rcases h with h | h
  · obtain ⟨hb, rfl, h1, h2⟩ := h
    exact ⟨1, n0, _, _, rfl, ⟨s0, by rw [h2]; exact hO⟩, fun h => absurd h (by omega), bz_same hC h1 h2, Or.inl ⟨hb, rfl, rfl, rfl⟩⟩
  · obtain ⟨hg, rfl, i, k, rfl, rfl, zz, uu, sv, hz, ⟨D, hd, hact, hk2⟩, rfl⟩ := h
    obtain ⟨pb1, ct1, hA, pb2, hp2, hC2⟩ := act_d hact hz
    exact ⟨0, zz, _, _, rfl, ⟨sv, wset_s⟩, fun _ => hz, bz_setp hp2 hC2 hk2 ho _, Or.inr (⟨hg, rfl, D, hd, hA⟩)⟩
set_option maxHeartbeats 1000000 in
theorem b_put {bs ss ba st pm le ri ct cm : Nat → Int} {pb : Nat → PT} {P Q : Nat → Nat} {sp : Nat → Nat → Int} {th : Int} {t : Nat} (hg : GD ba st pm le ri sp cm th t) (hr : RLx bs ss pb P Q ct ba st pm le ri sp cm) {k nv : Int} {vi b x y : Int} {pb1 : Nat → PT} {ct1 : Nat → Int} (h1 : D_put vi b x y pb ct k nv pb1 ct1) {t2 ans : Int} {pm' le' ri' cm' : Nat → Int} (h2 : ¬ (0 ≤ vi ∧ vi ≤ 2) ∧ t2 = 1 ∧ ans = 0 ∧ pm' = pm ∧ le' = le ∧ ri' = ri ∧ cm' = cm ∨ (0 ≤ vi ∧ vi ≤ 2) ∧ ¬ (GB b ∧ (-1000 ≤ x ∧ x ≤ 1000) ∧ (-1000 ≤ y ∧ y ≤ 1000)) ∧ t2 = 2 ∧ ans = 0 ∧ pm' = pm ∧ le' = le ∧ ri' = ri ∧ cm' = cm ∨ (0 ≤ vi ∧ vi ≤ 2) ∧ (GB b ∧ (-1000 ≤ x ∧ x ≤ 1000) ∧ (-1000 ≤ y ∧ y ≤ 1000)) ∧ t2 = 0 ∧ ans = bI (¬ (pm vi.toNat = b ∧ le vi.toNat = x ∧ ri vi.toNat = y)) ∧ pm' = iup pm vi.toNat b ∧ le' = iup le vi.toNat x ∧ ri' = iup ri vi.toNat y ∧ cm' = iup cm 1 (cm 1 + 1)) : GD ba st pm' le' ri' sp cm' t2 (t + 1) ∧ RLx bs ss pb1 P Q ct1 ba st pm' le' ri' sp cm' ∧ k = t2 ∧ (k = 0 → nv = ans) := by
  obtain ⟨g1, g2, g3, g4, g5, g6⟩ := hg
  obtain ⟨x1, x2, x3, -⟩ := bp_put g3 g6 h2
  refine ⟨⟨g1, g2, x2, g4, x1, x3⟩, ?_⟩
  rcases h1 with ⟨a1, a2, a3, a4⟩ | ⟨a1, a0, a2, a3, a4⟩ | ⟨a1, a0, a2, D, hd, hA⟩
  · rcases h2 with ⟨c1, c2, -, c4, c5, c6, c7⟩ | ⟨c1, c0, c2, -, c4, c5, c6, c7⟩ | ⟨c1, c0, c2, c3, c4, c5, c6, c7⟩
    · subst a3 a4 c4 c5 c6 c7
      exact ⟨hr, by omega, by omega⟩
    · first | omega | exact (c1 a1).elim | exact (a1 c1).elim | exact (c0 a0).elim | exact (a0 c0).elim | exact (c0 ‹_›).elim
    · first | omega | exact (c1 a1).elim | exact (a1 c1).elim | exact (c0 a0).elim | exact (a0 c0).elim | exact (c0 ‹_›).elim
  · rcases h2 with ⟨c1, c2, -, c4, c5, c6, c7⟩ | ⟨c1, c0, c2, -, c4, c5, c6, c7⟩ | ⟨c1, c0, c2, c3, c4, c5, c6, c7⟩
    · first | omega | exact (c1 a1).elim | exact (a1 c1).elim | exact (c0 a0).elim | exact (a0 c0).elim | exact (c0 ‹_›).elim
    · subst a3 a4 c4 c5 c6 c7
      exact ⟨hr, by omega, by omega⟩
    · first | omega | exact (c1 a1).elim | exact (a1 c1).elim | exact (c0 a0).elim | exact (a0 c0).elim | exact (c0 ‹_›).elim
  · rcases h2 with ⟨c1, c2, -, c4, c5, c6, c7⟩ | ⟨c1, c0, c2, -, c4, c5, c6, c7⟩ | ⟨c1, c0, c2, c3, c4, c5, c6, c7⟩
    · first | omega | exact (c1 a1).elim | exact (a1 c1).elim | exact (c0 a0).elim | exact (a0 c0).elim | exact (c0 ‹_›).elim
    · first | omega | exact (c1 a1).elim | exact (a1 c1).elim | exact (c0 a0).elim | exact (a0 c0).elim | exact (c0 ‹_›).elim
    · have hsm := x2
      rw [c4, c5, c6] at hsm
      replace hsm := hp_sm (by omega) hsm
      obtain ⟨y1, y2⟩ := act_b (T := vi.toNat) hr (by omega) hA (fun _ => hd) Iff.rfl (Or.inr ⟨by rw [hd]; exact hsm, c3, c4, c5, c6, c7⟩)
      exact ⟨y1, by omega, fun _ => y2⟩
set_option maxHeartbeats 1000000 in
theorem b_least {bs ss ba st pm le ri ct cm : Nat → Int} {pb : Nat → PT} {P Q : Nat → Nat} {sp : Nat → Nat → Int} {th : Int} {t : Nat} (hg : GD ba st pm le ri sp cm th t) (hr : RLx bs ss pb P Q ct ba st pm le ri sp cm) {k nv : Int} {vi b : Int} {pb1 : Nat → PT} {ct1 : Nat → Int} (h1 : D_least vi b pb ct k nv pb1 ct1) {t2 ans : Int} {pm' le' ri' cm' : Nat → Int} (h2 : ¬ (0 ≤ vi ∧ vi ≤ 2) ∧ t2 = 1 ∧ ans = 0 ∧ pm' = pm ∧ le' = le ∧ ri' = ri ∧ cm' = cm ∨ (0 ≤ vi ∧ vi ≤ 2) ∧ ¬ GB b ∧ t2 = 2 ∧ ans = 0 ∧ pm' = pm ∧ le' = le ∧ ri' = ri ∧ cm' = cm ∨ (0 ≤ vi ∧ vi ≤ 2) ∧ GB b ∧ t2 = 0 ∧ ∃ r, RT b r ∧ ans = bI (¬ (pm vi.toNat = b ∧ le vi.toNat = (leaP b r) ∧ ri vi.toNat = (leaQ b r))) ∧ pm' = iup pm vi.toNat b ∧ le' = iup le vi.toNat (leaP b r) ∧ ri' = iup ri vi.toNat (leaQ b r) ∧ cm' = iup cm 1 (cm 1 + 1)) : GD ba st pm' le' ri' sp cm' t2 (t + 1) ∧ RLx bs ss pb1 P Q ct1 ba st pm' le' ri' sp cm' ∧ k = t2 ∧ (k = 0 → nv = ans) := by
  obtain ⟨g1, g2, g3, g4, g5, g6⟩ := hg
  obtain ⟨x1, x2, x3, -⟩ := bp_least g3 g6 h2
  refine ⟨⟨g1, g2, x2, g4, x1, x3⟩, ?_⟩
  rcases h1 with ⟨a1, a2, a3, a4⟩ | ⟨a1, a0, a2, a3, a4⟩ | ⟨a1, a0, a2, D, hd, hA⟩
  · rcases h2 with ⟨c1, c2, -, c4, c5, c6, c7⟩ | ⟨c1, c0, c2, -, c4, c5, c6, c7⟩ | ⟨c1, c0, c2, r2, hr2, c3, c4, c5, c6, c7⟩
    · subst a3 a4 c4 c5 c6 c7
      exact ⟨hr, by omega, by omega⟩
    · first | omega | exact (c1 a1).elim | exact (a1 c1).elim | exact (c0 a0).elim | exact (a0 c0).elim | exact (c0 ‹_›).elim
    · first | omega | exact (c1 a1).elim | exact (a1 c1).elim | exact (c0 a0).elim | exact (a0 c0).elim | exact (c0 ‹_›).elim
  · rcases h2 with ⟨c1, c2, -, c4, c5, c6, c7⟩ | ⟨c1, c0, c2, -, c4, c5, c6, c7⟩ | ⟨c1, c0, c2, r2, hr2, c3, c4, c5, c6, c7⟩
    · first | omega | exact (c1 a1).elim | exact (a1 c1).elim | exact (c0 a0).elim | exact (a0 c0).elim | exact (c0 ‹_›).elim
    · subst a3 a4 c4 c5 c6 c7
      exact ⟨hr, by omega, by omega⟩
    · first | omega | exact (c1 a1).elim | exact (a1 c1).elim | exact (c0 a0).elim | exact (a0 c0).elim | exact (c0 ‹_›).elim
  · rcases h2 with ⟨c1, c2, -, c4, c5, c6, c7⟩ | ⟨c1, c0, c2, -, c4, c5, c6, c7⟩ | ⟨c1, c0, c2, r2, hr2, c3, c4, c5, c6, c7⟩
    · first | omega | exact (c1 a1).elim | exact (a1 c1).elim | exact (c0 a0).elim | exact (a0 c0).elim | exact (c0 ‹_›).elim
    · first | omega | exact (c1 a1).elim | exact (a1 c1).elim | exact (c0 a0).elim | exact (a0 c0).elim | exact (c0 ‹_›).elim
    · have hsm := x2
      rw [c4, c5, c6] at hsm
      replace hsm := hp_sm (by omega) hsm
      obtain ⟨r1, hr1, hd⟩ := hd
      have er := RT_uniq hr1 hr2
      subst er
      obtain ⟨y1, y2⟩ := act_b (T := vi.toNat) hr (by omega) hA (fun _ => hd) Iff.rfl (Or.inr ⟨by rw [hd]; exact hsm, c3, c4, c5, c6, c7⟩)
      exact ⟨y1, by omega, fun _ => y2⟩
set_option maxHeartbeats 1000000 in
theorem b_mirror {bs ss ba st pm le ri ct cm : Nat → Int} {pb : Nat → PT} {P Q : Nat → Nat} {sp : Nat → Nat → Int} {th : Int} {t : Nat} (hg : GD ba st pm le ri sp cm th t) (hr : RLx bs ss pb P Q ct ba st pm le ri sp cm) {k nv : Int} {vi y : Int} {pb1 : Nat → PT} {ct1 : Nat → Int} (h1 : D_mirror vi y pb ct k nv pb1 ct1) {t2 ans : Int} {pm' le' ri' cm' : Nat → Int} (h2 : ¬ (0 ≤ vi ∧ vi ≤ 2) ∧ t2 = 1 ∧ ans = 0 ∧ pm' = pm ∧ le' = le ∧ ri' = ri ∧ cm' = cm ∨ (0 ≤ vi ∧ vi ≤ 2) ∧ t2 = 0 ∧ ∃ x : Int, (y = 1 ∧ x = - le vi.toNat ∨ y = 0 ∧ x = le vi.toNat) ∧ ans = bI (¬ (pm vi.toNat = (pm vi.toNat) ∧ le vi.toNat = x ∧ ri vi.toNat = (- ri vi.toNat))) ∧ pm' = iup pm vi.toNat (pm vi.toNat) ∧ le' = iup le vi.toNat x ∧ ri' = iup ri vi.toNat (- ri vi.toNat) ∧ cm' = iup cm 1 (cm 1 + 1)) : GD ba st pm' le' ri' sp cm' t2 (t + 1) ∧ RLx bs ss pb1 P Q ct1 ba st pm' le' ri' sp cm' ∧ k = t2 ∧ (k = 0 → nv = ans) := by
  obtain ⟨g1, g2, g3, g4, g5, g6⟩ := hg
  obtain ⟨x1, x2, x3, -⟩ := bp_mirror g3 g6 h2
  refine ⟨⟨g1, g2, x2, g4, x1, x3⟩, ?_⟩
  rcases h1 with ⟨a1, a2, a3, a4⟩ | ⟨a1, a2, D, hd, hA⟩
  · rcases h2 with ⟨c1, c2, -, c4, c5, c6, c7⟩ | ⟨c1, c2, x, hx, c3, c4, c5, c6, c7⟩
    · subst a3 a4 c4 c5 c6 c7
      exact ⟨hr, by omega, by omega⟩
    · first | omega | exact (c1 a1).elim | exact (a1 c1).elim | exact (c0 a0).elim | exact (a0 c0).elim | exact (c0 ‹_›).elim
  · rcases h2 with ⟨c1, c2, -, c4, c5, c6, c7⟩ | ⟨c1, c2, x, hx, c3, c4, c5, c6, c7⟩
    · first | omega | exact (c1 a1).elim | exact (a1 c1).elim | exact (c0 a0).elim | exact (a0 c0).elim | exact (c0 ‹_›).elim
    · have hsm := x2
      rw [c4, c5, c6] at hsm
      replace hsm := hp_sm (by omega) hsm
      obtain ⟨v, hv, hd⟩ := hd
      rw [hr.2.1 vi.toNat (by omega)] at hv hd
      dsimp only at hv hd
      have ev : v = x := by omega
      subst ev
      obtain ⟨y1, y2⟩ := act_b (T := vi.toNat) hr (by omega) hA (fun _ => hd) Iff.rfl (Or.inr ⟨by rw [hd]; exact hsm, c3, c4, c5, c6, c7⟩)
      exact ⟨y1, by omega, fun _ => y2⟩
set_option maxHeartbeats 1000000 in
theorem b_pairCopy {bs ss ba st pm le ri ct cm : Nat → Int} {pb : Nat → PT} {P Q : Nat → Nat} {sp : Nat → Nat → Int} {th : Int} {t : Nat} (hg : GD ba st pm le ri sp cm th t) (hr : RLx bs ss pb P Q ct ba st pm le ri sp cm) {k nv : Int} {vi vk : Int} {pb1 : Nat → PT} {ct1 : Nat → Int} (h1 : D_pairCopy vi vk pb ct k nv pb1 ct1) {t2 ans : Int} {pm' le' ri' cm' : Nat → Int} (h2 : ¬ ((0 ≤ vi ∧ vi ≤ 2) ∧ (0 ≤ vk ∧ vk ≤ 2)) ∧ t2 = 1 ∧ ans = 0 ∧ pm' = pm ∧ le' = le ∧ ri' = ri ∧ cm' = cm ∨ ((0 ≤ vi ∧ vi ≤ 2) ∧ (0 ≤ vk ∧ vk ≤ 2)) ∧ t2 = 0 ∧ ans = bI (¬ (pm vk.toNat = (pm vi.toNat) ∧ le vk.toNat = (le vi.toNat) ∧ ri vk.toNat = (ri vi.toNat))) ∧ pm' = iup pm vk.toNat (pm vi.toNat) ∧ le' = iup le vk.toNat (le vi.toNat) ∧ ri' = iup ri vk.toNat (ri vi.toNat) ∧ cm' = iup cm 1 (cm 1 + 1)) : GD ba st pm' le' ri' sp cm' t2 (t + 1) ∧ RLx bs ss pb1 P Q ct1 ba st pm' le' ri' sp cm' ∧ k = t2 ∧ (k = 0 → nv = ans) := by
  obtain ⟨g1, g2, g3, g4, g5, g6⟩ := hg
  obtain ⟨x1, x2, x3, -⟩ := bp_pairCopy g3 g6 h2
  refine ⟨⟨g1, g2, x2, g4, x1, x3⟩, ?_⟩
  rcases h1 with ⟨a1, a2, a3, a4⟩ | ⟨a1, a2, D, hd, hA⟩
  · rcases h2 with ⟨c1, c2, -, c4, c5, c6, c7⟩ | ⟨c1, c2, c3, c4, c5, c6, c7⟩
    · subst a3 a4 c4 c5 c6 c7
      exact ⟨hr, by omega, by omega⟩
    · first | omega | exact (c1 a1).elim | exact (a1 c1).elim | exact (c0 a0).elim | exact (a0 c0).elim | exact (c0 ‹_›).elim
  · rcases h2 with ⟨c1, c2, -, c4, c5, c6, c7⟩ | ⟨c1, c2, c3, c4, c5, c6, c7⟩
    · first | omega | exact (c1 a1).elim | exact (a1 c1).elim | exact (c0 a0).elim | exact (a0 c0).elim | exact (c0 ‹_›).elim
    · have hsm := x2
      rw [c4, c5, c6] at hsm
      replace hsm := hp_sm (by omega) hsm
      rw [hr.2.1 vi.toNat (by omega)] at hd
      obtain ⟨y1, y2⟩ := act_b (T := vk.toNat) hr (by omega) hA (fun _ => hd) Iff.rfl (Or.inr ⟨by rw [hd]; exact hsm, c3, c4, c5, c6, c7⟩)
      exact ⟨y1, by omega, fun _ => y2⟩
set_option maxHeartbeats 1000000 in
theorem b_take {bs ss ba st pm le ri ct cm : Nat → Int} {pb : Nat → PT} {P Q : Nat → Nat} {sp : Nat → Nat → Int} {th : Int} {t : Nat} (hg : GD ba st pm le ri sp cm th t) (hr : RLx bs ss pb P Q ct ba st pm le ri sp cm) {k nv : Int} {vi vk : Int} {pb1 : Nat → PT} {ct1 : Nat → Int} (h1 : D_take vi vk bs ss pb ct k nv pb1 ct1) {t2 ans : Int} {pm' le' ri' cm' : Nat → Int} (h2 : ¬ ((0 ≤ vi ∧ vi ≤ 2) ∧ (0 ≤ vk ∧ vk ≤ 2)) ∧ t2 = 1 ∧ ans = 0 ∧ pm' = pm ∧ le' = le ∧ ri' = ri ∧ cm' = cm ∨ ((0 ≤ vi ∧ vi ≤ 2) ∧ (0 ≤ vk ∧ vk ≤ 2)) ∧ t2 = 0 ∧ ∃ r, RT (ba vi.toNat) r ∧ ((LGN ≤ aB (pq (ba vi.toNat) r 1 r (st vi.toNat).toNat).1 ∨ LGN ≤ aB (pq (ba vi.toNat) r 0 1 (st vi.toNat).toNat).1) ∧ ans = -9 ∧ pm' = pm ∧ le' = le ∧ ri' = ri ∧ cm' = iup cm 3 (cm 3 + 1) ∨ ¬ (LGN ≤ aB (pq (ba vi.toNat) r 1 r (st vi.toNat).toNat).1 ∨ LGN ≤ aB (pq (ba vi.toNat) r 0 1 (st vi.toNat).toNat).1) ∧ ans = bI (¬ (pm vk.toNat = (ba vi.toNat) ∧ le vk.toNat = (pq (ba vi.toNat) r 1 r (st vi.toNat).toNat).1 ∧ ri vk.toNat = (pq (ba vi.toNat) r 0 1 (st vi.toNat).toNat).1)) ∧ pm' = iup pm vk.toNat (ba vi.toNat) ∧ le' = iup le vk.toNat (pq (ba vi.toNat) r 1 r (st vi.toNat).toNat).1 ∧ ri' = iup ri vk.toNat (pq (ba vi.toNat) r 0 1 (st vi.toNat).toNat).1 ∧ cm' = iup cm 1 (cm 1 + 1))) : GD ba st pm' le' ri' sp cm' t2 (t + 1) ∧ RLx bs ss pb1 P Q ct1 ba st pm' le' ri' sp cm' ∧ k = t2 ∧ (k = 0 → nv = ans) := by
  obtain ⟨g1, g2, g3, g4, g5, g6⟩ := hg
  obtain ⟨x1, x2, x3, -⟩ := bp_take g3 g6 (ba := ba) (st := st) g1 h2
  refine ⟨⟨g1, g2, x2, g4, x1, x3⟩, ?_⟩
  rcases h1 with ⟨a1, a2, a3, a4⟩ | ⟨a1, a2, D, hd, hA⟩
  · rcases h2 with ⟨c1, c2, -, c4, c5, c6, c7⟩ | ⟨c1, c2, r2, hr2, ⟨c8, c3, c4, c5, c6, c7⟩ | ⟨c8, c3, c4, c5, c6, c7⟩⟩
    · subst a3 a4 c4 c5 c6 c7
      exact ⟨hr, by omega, by omega⟩
    · first | omega | exact (c1 a1).elim | exact (a1 c1).elim | exact (c0 a0).elim | exact (a0 c0).elim | exact (c0 ‹_›).elim
    · first | omega | exact (c1 a1).elim | exact (a1 c1).elim | exact (c0 a0).elim | exact (a0 c0).elim | exact (c0 ‹_›).elim
  · rcases h2 with ⟨c1, c2, -, c4, c5, c6, c7⟩ | ⟨c1, c2, r2, hr2, ⟨c8, c3, c4, c5, c6, c7⟩ | ⟨c8, c3, c4, c5, c6, c7⟩⟩
    · first | omega | exact (c1 a1).elim | exact (a1 c1).elim | exact (c0 a0).elim | exact (a0 c0).elim | exact (c0 ‹_›).elim
    · obtain ⟨r1, hr1, hd⟩ := hd
      obtain ⟨w1, w2, -⟩ := hr.1 vi.toNat (by omega)
      rw [w1] at hr1 hd
      rw [w2] at hd
      have er := RT_uniq hr1 hr2
      subst er
      obtain ⟨y1, y2⟩ := act_b (T := vk.toNat) hr (by omega) hA (fun _ => hd) Iff.rfl (Or.inl ⟨fun q => by rw [hd] at q; exact q c8, c3, c4, c5, c6, c7⟩)
      exact ⟨y1, by omega, fun _ => y2⟩
    · obtain ⟨r1, hr1, hd⟩ := hd
      obtain ⟨w1, w2, -⟩ := hr.1 vi.toNat (by omega)
      rw [w1] at hr1 hd
      rw [w2] at hd
      have er := RT_uniq hr1 hr2
      subst er
      obtain ⟨y1, y2⟩ := act_b (T := vk.toNat) hr (by omega) hA (fun _ => hd) Iff.rfl (Or.inr ⟨(by rw [hd]; exact c8), c3, c4, c5, c6, c7⟩)
      exact ⟨y1, by omega, fun _ => y2⟩
set_option maxHeartbeats 1000000 in
theorem b_compose {bs ss ba st pm le ri ct cm : Nat → Int} {pb : Nat → PT} {P Q : Nat → Nat} {sp : Nat → Nat → Int} {th : Int} {t : Nat} (hg : GD ba st pm le ri sp cm th t) (hr : RLx bs ss pb P Q ct ba st pm le ri sp cm) {k nv : Int} {vi vk vn : Int} {pb1 : Nat → PT} {ct1 : Nat → Int} (h1 : D_compose vi vk vn pb ct k nv pb1 ct1) {t2 ans : Int} {pm' le' ri' cm' : Nat → Int} (h2 : ¬ ((0 ≤ vi ∧ vi ≤ 2) ∧ (0 ≤ vk ∧ vk ≤ 2) ∧ (0 ≤ vn ∧ vn ≤ 2)) ∧ t2 = 1 ∧ ans = 0 ∧ pm' = pm ∧ le' = le ∧ ri' = ri ∧ cm' = cm ∨ ((0 ≤ vi ∧ vi ≤ 2) ∧ (0 ≤ vk ∧ vk ≤ 2) ∧ (0 ≤ vn ∧ vn ≤ 2)) ∧ t2 = 0 ∧ pm vi.toNat ≠ pm vk.toNat ∧ ans = -9 ∧ pm' = pm ∧ le' = le ∧ ri' = ri ∧ cm' = iup cm 3 (cm 3 + 1) ∨ ((0 ≤ vi ∧ vi ≤ 2) ∧ (0 ≤ vk ∧ vk ≤ 2) ∧ (0 ≤ vn ∧ vn ≤ 2)) ∧ t2 = 0 ∧ pm vi.toNat = pm vk.toNat ∧ ((LGN ≤ aB (le vi.toNat * le vk.toNat + pm vi.toNat * (ri vi.toNat * ri vk.toNat)) ∨ LGN ≤ aB (le vi.toNat * ri vk.toNat + ri vi.toNat * le vk.toNat)) ∧ ans = -9 ∧ pm' = pm ∧ le' = le ∧ ri' = ri ∧ cm' = iup cm 3 (cm 3 + 1) ∨ ¬ (LGN ≤ aB (le vi.toNat * le vk.toNat + pm vi.toNat * (ri vi.toNat * ri vk.toNat)) ∨ LGN ≤ aB (le vi.toNat * ri vk.toNat + ri vi.toNat * le vk.toNat)) ∧ ans = bI (¬ (pm vn.toNat = (pm vi.toNat) ∧ le vn.toNat = (le vi.toNat * le vk.toNat + pm vi.toNat * (ri vi.toNat * ri vk.toNat)) ∧ ri vn.toNat = (le vi.toNat * ri vk.toNat + ri vi.toNat * le vk.toNat))) ∧ pm' = iup pm vn.toNat (pm vi.toNat) ∧ le' = iup le vn.toNat (le vi.toNat * le vk.toNat + pm vi.toNat * (ri vi.toNat * ri vk.toNat)) ∧ ri' = iup ri vn.toNat (le vi.toNat * ri vk.toNat + ri vi.toNat * le vk.toNat) ∧ cm' = iup cm 1 (cm 1 + 1))) : GD ba st pm' le' ri' sp cm' t2 (t + 1) ∧ RLx bs ss pb1 P Q ct1 ba st pm' le' ri' sp cm' ∧ k = t2 ∧ (k = 0 → nv = ans) := by
  obtain ⟨g1, g2, g3, g4, g5, g6⟩ := hg
  obtain ⟨x1, x2, x3, -⟩ := bp_compose g3 g6 h2
  refine ⟨⟨g1, g2, x2, g4, x1, x3⟩, ?_⟩
  rcases h1 with ⟨a1, a2, a3, a4⟩ | ⟨a1, a2, D, hd, hA⟩
  · rcases h2 with ⟨c1, c2, -, c4, c5, c6, c7⟩ | ⟨c1, c2, c8, c3, c4, c5, c6, c7⟩ | ⟨c1, c2, c9, ⟨c8, c3, c4, c5, c6, c7⟩ | ⟨c8, c3, c4, c5, c6, c7⟩⟩
    · subst a3 a4 c4 c5 c6 c7
      exact ⟨hr, by omega, by omega⟩
    · first | omega | exact (c1 a1).elim | exact (a1 c1).elim | exact (c0 a0).elim | exact (a0 c0).elim | exact (c0 ‹_›).elim
    · first | omega | exact (c1 a1).elim | exact (a1 c1).elim | exact (c0 a0).elim | exact (a0 c0).elim | exact (c0 ‹_›).elim
    · first | omega | exact (c1 a1).elim | exact (a1 c1).elim | exact (c0 a0).elim | exact (a0 c0).elim | exact (c0 ‹_›).elim
  · rcases h2 with ⟨c1, c2, -, c4, c5, c6, c7⟩ | ⟨c1, c2, c8, c3, c4, c5, c6, c7⟩ | ⟨c1, c2, c9, ⟨c8, c3, c4, c5, c6, c7⟩ | ⟨c8, c3, c4, c5, c6, c7⟩⟩
    · first | omega | exact (c1 a1).elim | exact (a1 c1).elim | exact (c0 a0).elim | exact (a0 c0).elim | exact (c0 ‹_›).elim
    · rw [hr.2.1 vi.toNat (by omega), hr.2.1 vk.toNat (by omega)] at hd hA
      obtain ⟨y1, y2⟩ := act_b (T := vn.toNat) hr (by omega) hA (fun _ => hd) Iff.rfl (Or.inl ⟨fun q => c8 q.1, c3, c4, c5, c6, c7⟩)
      exact ⟨y1, by omega, fun _ => y2⟩
    · rw [hr.2.1 vi.toNat (by omega), hr.2.1 vk.toNat (by omega)] at hd hA
      obtain ⟨y1, y2⟩ := act_b (T := vn.toNat) hr (by omega) hA (fun _ => hd) Iff.rfl (Or.inl ⟨fun q => by rw [hd] at q; exact q.2 c8, c3, c4, c5, c6, c7⟩)
      exact ⟨y1, by omega, fun _ => y2⟩
    · rw [hr.2.1 vi.toNat (by omega), hr.2.1 vk.toNat (by omega)] at hd hA
      obtain ⟨y1, y2⟩ := act_b (T := vn.toNat) hr (by omega) hA (fun _ => hd) Iff.rfl (Or.inr ⟨⟨c9, by rw [hd]; exact c8⟩, c3, c4, c5, c6, c7⟩)
      exact ⟨y1, by omega, fun _ => y2⟩
set_option maxHeartbeats 1000000 in
theorem b_power {bs ss ba st pm le ri ct cm : Nat → Int} {pb : Nat → PT} {P Q : Nat → Nat} {sp : Nat → Nat → Int} {th : Int} {t : Nat} (hg : GD ba st pm le ri sp cm th t) (hr : RLx bs ss pb P Q ct ba st pm le ri sp cm) {k nv : Int} {vi vz : Int} {pb1 : Nat → PT} {ct1 : Nat → Int} (h1 : D_power vi vz pb ct k nv pb1 ct1) {t2 ans : Int} {pm' le' ri' cm' : Nat → Int} (h2 : ¬ (0 ≤ vi ∧ vi ≤ 2) ∧ t2 = 1 ∧ ans = 0 ∧ pm' = pm ∧ le' = le ∧ ri' = ri ∧ cm' = cm ∨ (0 ≤ vi ∧ vi ≤ 2) ∧ ¬ (0 ≤ vz ∧ vz ≤ 5) ∧ t2 = 2 ∧ ans = 0 ∧ pm' = pm ∧ le' = le ∧ ri' = ri ∧ cm' = cm ∨ (0 ≤ vi ∧ vi ≤ 2) ∧ (0 ≤ vz ∧ vz ≤ 5) ∧ t2 = 0 ∧ ((LGN ≤ aB (pw2 (pm vi.toNat) (le vi.toNat) (ri vi.toNat) vz.toNat).1 ∨ LGN ≤ aB (pw2 (pm vi.toNat) (le vi.toNat) (ri vi.toNat) vz.toNat).2) ∧ ans = -9 ∧ pm' = pm ∧ le' = le ∧ ri' = ri ∧ cm' = iup cm 3 (cm 3 + 1) ∨ ¬ (LGN ≤ aB (pw2 (pm vi.toNat) (le vi.toNat) (ri vi.toNat) vz.toNat).1 ∨ LGN ≤ aB (pw2 (pm vi.toNat) (le vi.toNat) (ri vi.toNat) vz.toNat).2) ∧ ans = bI (¬ (pm vi.toNat = (pm vi.toNat) ∧ le vi.toNat = (pw2 (pm vi.toNat) (le vi.toNat) (ri vi.toNat) vz.toNat).1 ∧ ri vi.toNat = (pw2 (pm vi.toNat) (le vi.toNat) (ri vi.toNat) vz.toNat).2)) ∧ pm' = iup pm vi.toNat (pm vi.toNat) ∧ le' = iup le vi.toNat (pw2 (pm vi.toNat) (le vi.toNat) (ri vi.toNat) vz.toNat).1 ∧ ri' = iup ri vi.toNat (pw2 (pm vi.toNat) (le vi.toNat) (ri vi.toNat) vz.toNat).2 ∧ cm' = iup cm 1 (cm 1 + 1))) : GD ba st pm' le' ri' sp cm' t2 (t + 1) ∧ RLx bs ss pb1 P Q ct1 ba st pm' le' ri' sp cm' ∧ k = t2 ∧ (k = 0 → nv = ans) := by
  obtain ⟨g1, g2, g3, g4, g5, g6⟩ := hg
  obtain ⟨x1, x2, x3, -⟩ := bp_power g3 g6 h2
  refine ⟨⟨g1, g2, x2, g4, x1, x3⟩, ?_⟩
  rcases h1 with ⟨a1, a2, a3, a4⟩ | ⟨a1, a0, a2, a3, a4⟩ | ⟨a1, a0, a2, D, hd, hA⟩
  · rcases h2 with ⟨c1, c2, -, c4, c5, c6, c7⟩ | ⟨c1, c0, c2, -, c4, c5, c6, c7⟩ | ⟨c1, c0, c2, ⟨c8, c3, c4, c5, c6, c7⟩ | ⟨c8, c3, c4, c5, c6, c7⟩⟩
    · subst a3 a4 c4 c5 c6 c7
      exact ⟨hr, by omega, by omega⟩
    · first | omega | exact (c1 a1).elim | exact (a1 c1).elim | exact (c0 a0).elim | exact (a0 c0).elim | exact (c0 ‹_›).elim
    · first | omega | exact (c1 a1).elim | exact (a1 c1).elim | exact (c0 a0).elim | exact (a0 c0).elim | exact (c0 ‹_›).elim
    · first | omega | exact (c1 a1).elim | exact (a1 c1).elim | exact (c0 a0).elim | exact (a0 c0).elim | exact (c0 ‹_›).elim
  · rcases h2 with ⟨c1, c2, -, c4, c5, c6, c7⟩ | ⟨c1, c0, c2, -, c4, c5, c6, c7⟩ | ⟨c1, c0, c2, ⟨c8, c3, c4, c5, c6, c7⟩ | ⟨c8, c3, c4, c5, c6, c7⟩⟩
    · first | omega | exact (c1 a1).elim | exact (a1 c1).elim | exact (c0 a0).elim | exact (a0 c0).elim | exact (c0 ‹_›).elim
    · subst a3 a4 c4 c5 c6 c7
      exact ⟨hr, by omega, by omega⟩
    · first | omega | exact (c1 a1).elim | exact (a1 c1).elim | exact (c0 a0).elim | exact (a0 c0).elim | exact (c0 ‹_›).elim
    · first | omega | exact (c1 a1).elim | exact (a1 c1).elim | exact (c0 a0).elim | exact (a0 c0).elim | exact (c0 ‹_›).elim
  · rcases h2 with ⟨c1, c2, -, c4, c5, c6, c7⟩ | ⟨c1, c0, c2, -, c4, c5, c6, c7⟩ | ⟨c1, c0, c2, ⟨c8, c3, c4, c5, c6, c7⟩ | ⟨c8, c3, c4, c5, c6, c7⟩⟩
    · first | omega | exact (c1 a1).elim | exact (a1 c1).elim | exact (c0 a0).elim | exact (a0 c0).elim | exact (c0 ‹_›).elim
    · first | omega | exact (c1 a1).elim | exact (a1 c1).elim | exact (c0 a0).elim | exact (a0 c0).elim | exact (c0 ‹_›).elim
    · rw [hr.2.1 vi.toNat (by omega)] at hd
      obtain ⟨y1, y2⟩ := act_b (T := vi.toNat) hr (by omega) hA (fun _ => hd) Iff.rfl (Or.inl ⟨fun q => by rw [hd] at q; exact q c8, c3, c4, c5, c6, c7⟩)
      exact ⟨y1, by omega, fun _ => y2⟩
    · rw [hr.2.1 vi.toNat (by omega)] at hd
      obtain ⟨y1, y2⟩ := act_b (T := vi.toNat) hr (by omega) hA (fun _ => hd) Iff.rfl (Or.inr ⟨(by rw [hd]; exact c8), c3, c4, c5, c6, c7⟩)
      exact ⟨y1, by omega, fun _ => y2⟩
set_option maxHeartbeats 1000000 in
theorem b_divideBy {bs ss ba st pm le ri ct cm : Nat → Int} {pb : Nat → PT} {P Q : Nat → Nat} {sp : Nat → Nat → Int} {th : Int} {t : Nat} (hg : GD ba st pm le ri sp cm th t) (hr : RLx bs ss pb P Q ct ba st pm le ri sp cm) {k nv : Int} {vi z : Int} {pb1 : Nat → PT} {ct1 : Nat → Int} (h1 : D_divideBy vi z pb ct k nv pb1 ct1) {t2 ans : Int} {pm' le' ri' cm' : Nat → Int} (h2 : ¬ (0 ≤ vi ∧ vi ≤ 2) ∧ t2 = 1 ∧ ans = 0 ∧ pm' = pm ∧ le' = le ∧ ri' = ri ∧ cm' = cm ∨ (0 ≤ vi ∧ vi ≤ 2) ∧ ¬ (-99 ≤ z ∧ z ≤ 99) ∧ t2 = 2 ∧ ans = 0 ∧ pm' = pm ∧ le' = le ∧ ri' = ri ∧ cm' = cm ∨ (0 ≤ vi ∧ vi ≤ 2) ∧ (-99 ≤ z ∧ z ≤ 99) ∧ t2 = 0 ∧ ((z = 0 ∨ aB (le vi.toNat) % aB z ≠ 0 ∨ aB (ri vi.toNat) % aB z ≠ 0) ∧ ans = -9 ∧ pm' = pm ∧ le' = le ∧ ri' = ri ∧ cm' = iup cm 3 (cm 3 + 1) ∨ ¬ (z = 0 ∨ aB (le vi.toNat) % aB z ≠ 0 ∨ aB (ri vi.toNat) % aB z ≠ 0) ∧ ∃ x y : Int, x * z = le vi.toNat ∧ y * z = ri vi.toNat ∧ ans = bI (¬ (pm vi.toNat = (pm vi.toNat) ∧ le vi.toNat = x ∧ ri vi.toNat = y)) ∧ pm' = iup pm vi.toNat (pm vi.toNat) ∧ le' = iup le vi.toNat x ∧ ri' = iup ri vi.toNat y ∧ cm' = iup cm 1 (cm 1 + 1))) : GD ba st pm' le' ri' sp cm' t2 (t + 1) ∧ RLx bs ss pb1 P Q ct1 ba st pm' le' ri' sp cm' ∧ k = t2 ∧ (k = 0 → nv = ans) := by
  obtain ⟨g1, g2, g3, g4, g5, g6⟩ := hg
  obtain ⟨x1, x2, x3, -⟩ := bp_divideBy g3 g6 h2
  refine ⟨⟨g1, g2, x2, g4, x1, x3⟩, ?_⟩
  rcases h1 with ⟨a1, a2, a3, a4⟩ | ⟨a1, a0, a2, a3, a4⟩ | ⟨a1, a0, a2, D, hd, hA⟩
  · rcases h2 with ⟨c1, c2, -, c4, c5, c6, c7⟩ | ⟨c1, c0, c2, -, c4, c5, c6, c7⟩ | ⟨c1, c0, c2, ⟨c8, c3, c4, c5, c6, c7⟩ | ⟨c8, x, y, hx, hy, c3, c4, c5, c6, c7⟩⟩
    · subst a3 a4 c4 c5 c6 c7
      exact ⟨hr, by omega, by omega⟩
    · first | omega | exact (c1 a1).elim | exact (a1 c1).elim | exact (c0 a0).elim | exact (a0 c0).elim | exact (c0 ‹_›).elim
    · first | omega | exact (c1 a1).elim | exact (a1 c1).elim | exact (c0 a0).elim | exact (a0 c0).elim | exact (c0 ‹_›).elim
    · first | omega | exact (c1 a1).elim | exact (a1 c1).elim | exact (c0 a0).elim | exact (a0 c0).elim | exact (c0 ‹_›).elim
  · rcases h2 with ⟨c1, c2, -, c4, c5, c6, c7⟩ | ⟨c1, c0, c2, -, c4, c5, c6, c7⟩ | ⟨c1, c0, c2, ⟨c8, c3, c4, c5, c6, c7⟩ | ⟨c8, x, y, hx, hy, c3, c4, c5, c6, c7⟩⟩
    · first | omega | exact (c1 a1).elim | exact (a1 c1).elim | exact (c0 a0).elim | exact (a0 c0).elim | exact (c0 ‹_›).elim
    · subst a3 a4 c4 c5 c6 c7
      exact ⟨hr, by omega, by omega⟩
    · first | omega | exact (c1 a1).elim | exact (a1 c1).elim | exact (c0 a0).elim | exact (a0 c0).elim | exact (c0 ‹_›).elim
    · first | omega | exact (c1 a1).elim | exact (a1 c1).elim | exact (c0 a0).elim | exact (a0 c0).elim | exact (c0 ‹_›).elim
  · rcases h2 with ⟨c1, c2, -, c4, c5, c6, c7⟩ | ⟨c1, c0, c2, -, c4, c5, c6, c7⟩ | ⟨c1, c0, c2, ⟨c8, c3, c4, c5, c6, c7⟩ | ⟨c8, x, y, hx, hy, c3, c4, c5, c6, c7⟩⟩
    · first | omega | exact (c1 a1).elim | exact (a1 c1).elim | exact (c0 a0).elim | exact (a0 c0).elim | exact (c0 ‹_›).elim
    · first | omega | exact (c1 a1).elim | exact (a1 c1).elim | exact (c0 a0).elim | exact (a0 c0).elim | exact (c0 ‹_›).elim
    · rw [hr.2.1 vi.toNat (by omega)] at hd hA
      obtain ⟨y1, y2⟩ := act_b (T := vi.toNat) hr (by omega) hA (b := pm vi.toNat) (x := 0) (y := 0) (fun q => (q c8).elim) Iff.rfl (Or.inl ⟨fun q => q c8, c3, c4, c5, c6, c7⟩)
      exact ⟨y1, by omega, fun _ => y2⟩
    · rw [hr.2.1 vi.toNat (by omega)] at hd hA
      have hD : D = (pm vi.toNat, x, y) := by
        have hz0 : z ≠ 0 := fun q => c8 (Or.inl q)
        obtain ⟨e1, e2, e3⟩ := hd c8
        dsimp only at e1 e2 e3
        have f2 : D.2.1 = x := Int.eq_of_mul_eq_mul_right hz0 (by rw [e2, hx])
        have f3 : D.2.2 = y := Int.eq_of_mul_eq_mul_right hz0 (by rw [e3, hy])
        exact Prod.ext e1 (Prod.ext f2 f3)
      obtain ⟨y1, y2⟩ := act_b (T := vi.toNat) hr (by omega) hA (fun _ => hD) Iff.rfl (Or.inr ⟨c8, c3, c4, c5, c6, c7⟩)
      exact ⟨y1, by omega, fun _ => y2⟩
