/-! ===== words as the model spells them; an item without its stop ===== -/
theorem pick_c {α : Type} {c : Prop} {a b x : α} (h : pick c a b = x) : (c ∧ a = x) ∨ (¬ c ∧ b = x) := by
  by_cases q : c
  · exact Or.inl ⟨q, by rw [← h, pick_y q]⟩
  · exact Or.inr ⟨q, by rw [← h, pick_n q]⟩
theorem wdF_conv {bs : Nat → Int32} {s e : Int} {x : Int} (h : wdF bs s e = x) (h0 : 0 ≤ x) : ∃ i : Nat, (i : Int) = x ∧ i < 6 ∧ wB bs s e i := by
  unfold wdF at h
  rcases pick_c h with ⟨a, b⟩ | ⟨_, h⟩
  · exact ⟨0, by omega, by decide, a⟩
  rcases pick_c h with ⟨a, b⟩ | ⟨_, h⟩
  · exact ⟨1, by omega, by decide, a⟩
  rcases pick_c h with ⟨a, b⟩ | ⟨_, h⟩
  · exact ⟨2, by omega, by decide, a⟩
  rcases pick_c h with ⟨a, b⟩ | ⟨_, h⟩
  · exact ⟨3, by omega, by decide, a⟩
  rcases pick_c h with ⟨a, b⟩ | ⟨_, h⟩
  · exact ⟨4, by omega, by decide, a⟩
  rcases pick_c h with ⟨a, b⟩ | ⟨_, h⟩
  · exact ⟨5, by omega, by decide, a⟩
  · omega
def selF (s0 s1 s2 s3 s4 s5 : Int32) (j : Nat) : Int32 := if j = 0 then s0 else if j = 1 then s1 else if j = 2 then s2 else if j = 3 then s3 else if j = 4 then s4 else s5
def SPTP (bs : Nat → Int32) (ta tl tk n : Int32) (s0 s1 s2 s3 s4 s5 : Int32) : Prop := tk.toInt = 1 ∧ tl.toInt = n.toInt ∧ ∀ j : Nat, (j : Int) < n.toInt → bs (ta.toNatClampNeg + j) = selF s0 s1 s2 s3 s4 s5 j
theorem sp_w {bs : Nat → Int32} {ta tl tk n s0 s1 s2 s3 s4 s5 : Int32} {i : Nat} (hn : n.toInt = (slen.getD i 0 : Nat)) (hs : ∀ j, j < slen.getD i 0 → selF s0 s1 s2 s3 s4 s5 j = (sbyt.getD i []).getD j 0) : SPTP bs ta tl tk n s0 s1 s2 s3 s4 s5 ↔ tk.toInt = 1 ∧ wB bs ta.toInt (ta.toInt + tl.toInt) i := by
  refine ⟨fun h => ⟨h.1, ?_, fun j hj => ?_⟩, fun h => ⟨h.1, ?_, fun j hj => ?_⟩⟩
  · have := h.2.1; omega
  · rw [toN, h.2.2 j (by omega)]; exact hs j hj
  · have := h.2.1; omega
  · have := h.2.2 j (by omega)
    rw [toN] at this
    rw [this]; exact (hs j (by omega)).symm
theorem AT.wd {bs : Nat → Int32} {len p : Nat} {ta tl tk va : Int32} {i : Nat} (h : AT bs len p ta tl tk va) (hi : i < 6) : (tk.toInt = 1 ∧ wB bs ta.toInt (ta.toInt + tl.toInt) i) ↔ wdAt bs len p = (i : Int) := by
  obtain ⟨h1, h2, h3, -⟩ := h
  unfold wdAt
  refine ⟨fun q => ?_, fun q => ?_⟩
  · rw [pick_y (by rw [← h3]; exact q.1), ← h1, ← h2]; exact wdF_at hi q.2
  · rcases pick_c q with ⟨a, b⟩ | ⟨a, b⟩
    · obtain ⟨j, e, hj, hw⟩ := wdF_conv b (by omega)
      have : j = i := by omega
      subst this
      exact ⟨by rw [h3]; exact a, by rw [h2, h1]; exact hw⟩
    · omega
noncomputable def jtemF (bs : Nat → Int32) (len p : Nat) (G : Nat → Int32) : Nat ⊕ (Nat × (Nat → Int32)) :=
  pick (wdAt bs len p = 1 ∧ (G 0).toInt < 7) (jt1 bs len (tE bs len p) G)
  (pick (wdAt bs len p = 2 ∧ (G 1).toInt < 4) (jt2 bs len (tE bs len p) G)
  (pick (wdAt bs len p = 3) (jt3 bs len (tE bs len p) G)
  (pick (wdAt bs len p = 4) (jt4 bs len (tE bs len p) G)
  (pick (wdAt bs len p = 5) (jt5 bs len (tE bs len p) G)
  (.inl (tS bs len p))))))
theorem pick_stop {bs : Nat → Int32} {len : Nat} {c d : Prop} {a b x y : Nat ⊕ (Nat × (Nat → Int32))} (hcd : c ↔ d) (h1 : a = thenStop bs len x) (h2 : b = thenStop bs len y) : pick c a b = thenStop bs len (pick d x y) := by
  by_cases q : d
  · rw [pick_y q]; exact (pick_y (hcd.mpr q)).trans h1
  · rw [pick_n q]; exact (pick_n (fun t => q (hcd.mp t))).trans h2
theorem item_jtem {bs : Nat → Int32} {len p : Nat} {G : Nat → Int32} {first : Prop} (hf : ¬ first) : itemF bs len p G first = thenStop bs len (jtemF bs len p G) := by
  unfold itemF jtemF
  refine (pick_n (fun q => hf q.2)).trans ?_
  exact pick_stop ⟨fun q => ⟨q.1, q.2.2⟩, fun q => ⟨q.1, hf, q.2⟩⟩ it1_jt (pick_stop ⟨fun q => ⟨q.1, q.2.2⟩, fun q => ⟨q.1, hf, q.2⟩⟩ it2_jt (pick_stop ⟨fun q => q.1, fun q => ⟨q, hf⟩⟩ it3_jt (pick_stop ⟨fun q => q.1, fun q => ⟨q, hf⟩⟩ it4_jt (pick_stop ⟨fun q => q.1, fun q => ⟨q, hf⟩⟩ it5_jt rfl))))
