theorem begF0 (k : Nat) : begF 0 k = 0 := by unfold begF; split <;> rfl
theorem fr0_cong74 {cI cB cZ cO : ClassId} {ad ad1 : Nat → Nat} (h : ∀ k, k < 74 → ad1 k = ad k) : ∀ k, k < 74 → fr0 cI cB cZ cO ad1 k = fr0 cI cB cZ cO ad k := by
  intro k hk
  match k, hk with
  | 0, _ => show (.inr (6, [.ref (ad1 1), .ref (ad1 14), .ref (ad1 27), .ref (ad1 54), .ref (ad1 55), .ref (ad1 58), .ref (ad1 62), .long 0, .long 1, .int 0, .int 0, .int 0]) : va_E) = .inr (6, [.ref (ad 1), .ref (ad 14), .ref (ad 27), .ref (ad 54), .ref (ad 55), .ref (ad 58), .ref (ad 62), .long 0, .long 1, .int 0, .int 0, .int 0]); rw [h 1 (by decide), h 14 (by decide), h 27 (by decide), h 54 (by decide), h 55 (by decide), h 58 (by decide), h 62 (by decide)]
  | 1, _ => show (.inr (1, [.int 0, .int 0, .int 0, .int 0, .int 0, .ref (ad1 2), .ref (ad1 3), .ref (ad1 4), .ref (ad1 5), .ref (ad1 6), .ref (ad1 7), .ref (ad1 8), .ref (ad1 10), .ref (ad1 12)]) : va_E) = .inr (1, [.int 0, .int 0, .int 0, .int 0, .int 0, .ref (ad 2), .ref (ad 3), .ref (ad 4), .ref (ad 5), .ref (ad 6), .ref (ad 7), .ref (ad 8), .ref (ad 10), .ref (ad 12)]); rw [h 2 (by decide), h 3 (by decide), h 4 (by decide), h 5 (by decide), h 6 (by decide), h 7 (by decide), h 8 (by decide), h 10 (by decide), h 12 (by decide)]
  | 2, _ => rfl
  | 3, _ => rfl
  | 4, _ => rfl
  | 5, _ => rfl
  | 6, _ => rfl
  | 7, _ => rfl
  | 8, _ => show (.inr (4, [.ref (ad1 9), .int 0]) : va_E) = .inr (4, [.ref (ad 9), .int 0]); rw [h 9 (by decide)]
  | 9, _ => rfl
  | 10, _ => show (.inr (4, [.ref (ad1 11), .int 0]) : va_E) = .inr (4, [.ref (ad 11), .int 0]); rw [h 11 (by decide)]
  | 11, _ => rfl
  | 12, _ => show (.inr (2, [.ref (ad1 13), .int 0]) : va_E) = .inr (2, [.ref (ad 13), .int 0]); rw [h 13 (by decide)]
  | 13, _ => rfl
  | 14, _ => show (.inr (1, [.int 0, .int 0, .int 0, .int 0, .int 0, .ref (ad1 15), .ref (ad1 16), .ref (ad1 17), .ref (ad1 18), .ref (ad1 19), .ref (ad1 20), .ref (ad1 21), .ref (ad1 23), .ref (ad1 25)]) : va_E) = .inr (1, [.int 0, .int 0, .int 0, .int 0, .int 0, .ref (ad 15), .ref (ad 16), .ref (ad 17), .ref (ad 18), .ref (ad 19), .ref (ad 20), .ref (ad 21), .ref (ad 23), .ref (ad 25)]); rw [h 15 (by decide), h 16 (by decide), h 17 (by decide), h 18 (by decide), h 19 (by decide), h 20 (by decide), h 21 (by decide), h 23 (by decide), h 25 (by decide)]
  | 15, _ => rfl
  | 16, _ => rfl
  | 17, _ => rfl
  | 18, _ => rfl
  | 19, _ => rfl
  | 20, _ => rfl
  | 21, _ => show (.inr (4, [.ref (ad1 22), .int 0]) : va_E) = .inr (4, [.ref (ad 22), .int 0]); rw [h 22 (by decide)]
  | 22, _ => rfl
  | 23, _ => show (.inr (4, [.ref (ad1 24), .int 0]) : va_E) = .inr (4, [.ref (ad 24), .int 0]); rw [h 24 (by decide)]
  | 24, _ => rfl
  | 25, _ => show (.inr (2, [.ref (ad1 26), .int 0]) : va_E) = .inr (2, [.ref (ad 26), .int 0]); rw [h 26 (by decide)]
  | 26, _ => rfl
  | 27, _ => show (.inl (cO, 2, .inr (.inr (.inr (.inr (fun k => if k = 0 then some (ad1 28) else if k = 1 then some (ad1 41) else none))))) : va_E) = .inl (cO, 2, .inr (.inr (.inr (.inr (fun k => if k = 0 then some (ad 28) else if k = 1 then some (ad 41) else none))))); rw [h 28 (by decide), h 41 (by decide)]
  | 28, _ => show (.inr (1, [.int 0, .int 0, .int 0, .int 0, .int 0, .ref (ad1 29), .ref (ad1 30), .ref (ad1 31), .ref (ad1 32), .ref (ad1 33), .ref (ad1 34), .ref (ad1 35), .ref (ad1 37), .ref (ad1 39)]) : va_E) = .inr (1, [.int 0, .int 0, .int 0, .int 0, .int 0, .ref (ad 29), .ref (ad 30), .ref (ad 31), .ref (ad 32), .ref (ad 33), .ref (ad 34), .ref (ad 35), .ref (ad 37), .ref (ad 39)]); rw [h 29 (by decide), h 30 (by decide), h 31 (by decide), h 32 (by decide), h 33 (by decide), h 34 (by decide), h 35 (by decide), h 37 (by decide), h 39 (by decide)]
  | 29, _ => rfl
  | 30, _ => rfl
  | 31, _ => rfl
  | 32, _ => rfl
  | 33, _ => rfl
  | 34, _ => rfl
  | 35, _ => show (.inr (4, [.ref (ad1 36), .int 0]) : va_E) = .inr (4, [.ref (ad 36), .int 0]); rw [h 36 (by decide)]
  | 36, _ => rfl
  | 37, _ => show (.inr (4, [.ref (ad1 38), .int 0]) : va_E) = .inr (4, [.ref (ad 38), .int 0]); rw [h 38 (by decide)]
  | 38, _ => rfl
  | 39, _ => show (.inr (2, [.ref (ad1 40), .int 0]) : va_E) = .inr (2, [.ref (ad 40), .int 0]); rw [h 40 (by decide)]
  | 40, _ => rfl
  | 41, _ => show (.inr (1, [.int 0, .int 0, .int 0, .int 0, .int 0, .ref (ad1 42), .ref (ad1 43), .ref (ad1 44), .ref (ad1 45), .ref (ad1 46), .ref (ad1 47), .ref (ad1 48), .ref (ad1 50), .ref (ad1 52)]) : va_E) = .inr (1, [.int 0, .int 0, .int 0, .int 0, .int 0, .ref (ad 42), .ref (ad 43), .ref (ad 44), .ref (ad 45), .ref (ad 46), .ref (ad 47), .ref (ad 48), .ref (ad 50), .ref (ad 52)]); rw [h 42 (by decide), h 43 (by decide), h 44 (by decide), h 45 (by decide), h 46 (by decide), h 47 (by decide), h 48 (by decide), h 50 (by decide), h 52 (by decide)]
  | 42, _ => rfl
  | 43, _ => rfl
  | 44, _ => rfl
  | 45, _ => rfl
  | 46, _ => rfl
  | 47, _ => rfl
  | 48, _ => show (.inr (4, [.ref (ad1 49), .int 0]) : va_E) = .inr (4, [.ref (ad 49), .int 0]); rw [h 49 (by decide)]
  | 49, _ => rfl
  | 50, _ => show (.inr (4, [.ref (ad1 51), .int 0]) : va_E) = .inr (4, [.ref (ad 51), .int 0]); rw [h 51 (by decide)]
  | 51, _ => rfl
  | 52, _ => show (.inr (2, [.ref (ad1 53), .int 0]) : va_E) = .inr (2, [.ref (ad 53), .int 0]); rw [h 53 (by decide)]
  | 53, _ => rfl
  | 54, _ => rfl
  | 55, _ => show (.inr (5, [.ref (ad1 56), .ref (ad1 57), .int 0, .int 0, .int 0, .int 0, .int 0]) : va_E) = .inr (5, [.ref (ad 56), .ref (ad 57), .int 0, .int 0, .int 0, .int 0, .int 0]); rw [h 56 (by decide), h 57 (by decide)]
  | 56, _ => rfl
  | 57, _ => rfl
  | 58, _ => show (.inr (3, [.ref (ad1 59), .ref (ad1 60), .ref (ad1 61), .int 0, .int 0, .int 0]) : va_E) = .inr (3, [.ref (ad 59), .ref (ad 60), .ref (ad 61), .int 0, .int 0, .int 0]); rw [h 59 (by decide), h 60 (by decide), h 61 (by decide)]
  | 59, _ => rfl
  | 60, _ => rfl
  | 61, _ => rfl
  | 62, _ => show (.inr (0, [.ref (ad1 63)]) : va_E) = .inr (0, [.ref (ad 63)]); rw [h 63 (by decide)]
  | 63, _ => rfl
  | 64, _ => show (.inr (7, [.ref (ad1 65), .ref (ad1 66), .ref (ad1 67), .ref (ad1 68), .long 0, .long 1, .ref (ad1 69), .int 0, .ref (ad1 70), .ref (ad1 71), .int 0, .int 0, .int 0, .int 0, .int 0, .ref (ad1 72), .ref (ad1 73)]) : va_E) = .inr (7, [.ref (ad 65), .ref (ad 66), .ref (ad 67), .ref (ad 68), .long 0, .long 1, .ref (ad 69), .int 0, .ref (ad 70), .ref (ad 71), .int 0, .int 0, .int 0, .int 0, .int 0, .ref (ad 72), .ref (ad 73)]); rw [h 65 (by decide), h 66 (by decide), h 67 (by decide), h 68 (by decide), h 69 (by decide), h 70 (by decide), h 71 (by decide), h 72 (by decide), h 73 (by decide)]
  | 65, _ => rfl
  | 66, _ => rfl
  | 67, _ => rfl
  | 68, _ => rfl
  | 69, _ => rfl
  | 70, _ => rfl
  | 71, _ => rfl
  | 72, _ => rfl
  | 73, _ => rfl
  | k + 74, hk => exact absurd hk (Nat.not_lt.mpr (Nat.le_add_left _ _))
theorem rg0 (lo hi : Int) (h1 : lo ≤ 0) (h2 : 0 ≤ hi) : rgA lo hi (fun _ => 0) := fun _ => ⟨h1, h2⟩
theorem al0 : alA (fun _ => 0) := by unfold alA; decide
theorem hz_al (t : Int32) : alA (upd (fun _ => 0) 5 t) := alA_upd al0 rfl (by decide)
theorem ok_fresh {cI cB cZ cO : ClassId} {ad : Nat → Nat} : OK cI cB cZ cO ad (fr0 cI cB cZ cO ad) := by
  intro k hk
  match k, hk with
  | 0, _ => exact sN_mk
  | 1, _ => exact sI_mk (by decide) (by decide) (by decide) (by decide)
  | 2, _ => exact sA_mk trivial
  | 3, _ => exact sA_mk (rg0 _ _ (by decide) (by decide))
  | 4, _ => exact sA_mk trivial
  | 5, _ => exact sA_mk trivial
  | 6, _ => exact sA_mk (rg0 _ _ (by decide) (by decide))
  | 7, _ => exact sA_mk trivial
  | 8, _ => exact sR_mk (by decide) (by decide)
  | 9, _ => exact sA_mk trivial
  | 10, _ => exact sR_mk (by decide) (by decide)
  | 11, _ => exact sA_mk trivial
  | 12, _ => exact sR_mk (by decide) (by decide)
  | 13, _ => exact sA_mk (fun _ _ => ⟨by decide, by decide⟩)
  | 14, _ => exact sI_mk (by decide) (by decide) (by decide) (by decide)
  | 15, _ => exact sA_mk trivial
  | 16, _ => exact sA_mk (rg0 _ _ (by decide) (by decide))
  | 17, _ => exact sA_mk trivial
  | 18, _ => exact sA_mk trivial
  | 19, _ => exact sA_mk (rg0 _ _ (by decide) (by decide))
  | 20, _ => exact sA_mk trivial
  | 21, _ => exact sR_mk (by decide) (by decide)
  | 22, _ => exact sA_mk trivial
  | 23, _ => exact sR_mk (by decide) (by decide)
  | 24, _ => exact sA_mk trivial
  | 25, _ => exact sR_mk (by decide) (by decide)
  | 26, _ => exact sA_mk (fun _ _ => ⟨by decide, by decide⟩)
  | 27, _ => exact rfl
  | 28, _ => exact sI_mk (by decide) (by decide) (by decide) (by decide)
  | 29, _ => exact sA_mk trivial
  | 30, _ => exact sA_mk (rg0 _ _ (by decide) (by decide))
  | 31, _ => exact sA_mk trivial
  | 32, _ => exact sA_mk trivial
  | 33, _ => exact sA_mk (rg0 _ _ (by decide) (by decide))
  | 34, _ => exact sA_mk trivial
  | 35, _ => exact sR_mk (by decide) (by decide)
  | 36, _ => exact sA_mk trivial
  | 37, _ => exact sR_mk (by decide) (by decide)
  | 38, _ => exact sA_mk trivial
  | 39, _ => exact sR_mk (by decide) (by decide)
  | 40, _ => exact sA_mk (fun _ _ => ⟨by decide, by decide⟩)
  | 41, _ => exact sI_mk (by decide) (by decide) (by decide) (by decide)
  | 42, _ => exact sA_mk trivial
  | 43, _ => exact sA_mk (rg0 _ _ (by decide) (by decide))
  | 44, _ => exact sA_mk trivial
  | 45, _ => exact sA_mk trivial
  | 46, _ => exact sA_mk (rg0 _ _ (by decide) (by decide))
  | 47, _ => exact sA_mk trivial
  | 48, _ => exact sR_mk (by decide) (by decide)
  | 49, _ => exact sA_mk trivial
  | 50, _ => exact sR_mk (by decide) (by decide)
  | 51, _ => exact sA_mk trivial
  | 52, _ => exact sR_mk (by decide) (by decide)
  | 53, _ => exact sA_mk (fun _ _ => ⟨by decide, by decide⟩)
  | 54, _ => exact sA_mk (rg0 _ _ (by decide) (by decide))
  | 55, _ => exact sT_mk (by decide) (by decide) (by decide) (by decide)
  | 56, _ => exact sA_mk trivial
  | 57, _ => exact sA_mk (rg0 _ _ (by decide) (by decide))
  | 58, _ => exact sL_mk (by decide) (by decide) (by decide) (by decide)
  | 59, _ => exact sA_mk (rg0 _ _ (by decide) (by decide))
  | 60, _ => exact sA_mk trivial
  | 61, _ => exact sA_mk (rg0 _ _ (by decide) (by decide))
  | 62, _ => exact rfl
  | 63, _ => exact sA_mk trivial
  | 64, _ => exact sM_mk (by decide) (by decide)
  | 65, _ => exact sA_mk al0
  | 66, _ => exact sA_mk ⟨al0, al0⟩
  | 67, _ => exact sA_mk (rg0 _ _ (by decide) (by decide))
  | 68, _ => exact sA_mk trivial
  | 69, _ => exact sA_mk al0
  | 70, _ => exact sA_mk trivial
  | 71, _ => exact sA_mk trivial
  | 72, _ => exact sA_mk al0
  | 73, _ => exact sA_mk trivial
  | k + 74, hk => exact absurd hk (Nat.not_lt.mpr (Nat.le_add_left _ _))
theorem rel_fresh {cI cB cZ cO : ClassId} {ad : Nat → Nat} : REL2 cI cB cZ ad (fr0 cI cB cZ cO ad) := by
  refine ⟨⟨⟨⟨0, rfl, rfl⟩, _, _, rfl, rfl, rfl, rfl⟩, _, rfl, rfl⟩, ⟨0, 0, 0, 0, _, _, _, _, ⟨rfl, rfl, rfl, rfl, rfl, rfl⟩, rfl, IRD.beg (t := 0) (fun k _ => (begF0 k).symm)⟩, ⟨_, _, rfl, rfl, fun q => absurd rfl q, fun q => absurd rfl q⟩⟩
theorem ok_eq {cI cB cZ cO : ClassId} {ad : Nat → Nat} {w w1 : Nat → va_E} (h : OK cI cB cZ cO ad w) (e : ∀ k, k < 74 → w1 k = w k) : OK cI cB cZ cO ad w1 := fun k hk => by rw [e k hk]; exact h k hk
theorem rel_eq {cI cB cZ : ClassId} {ad : Nat → Nat} {w w1 : Nat → va_E} (h : REL2 cI cB cZ ad w) (e : ∀ k, k < 74 → w1 k = w k) : REL2 cI cB cZ ad w1 := by
  obtain ⟨h7, ⟨ca, ja, nz, mz, hh, nc, mc, f, v, e5, d⟩, hi⟩ := h
  refine ⟨?_, ⟨ca, ja, nz, mz, hh, nc, mc, f, v.same (fun k x y => e k (by omega)), (e 65 (by decide)).trans e5, d⟩, hi.same (e 54 (by decide)) (e 66 (by decide)) (fun k x y => e k (by omega))⟩
  unfold REL7 REL BYT at h7 ⊢
  rw [e 55 (by decide), e 64 (by decide), e 54 (by decide), e 67 (by decide), e 56 (by decide), e 71 (by decide)]; exact h7
theorem nw_in : ∀ q ∈ nwq, Cond.methodLinkNest q.1 q.2.1 q.2.2.1 q.2.2.2 ∈ lw_tbl := by decide +kernel
