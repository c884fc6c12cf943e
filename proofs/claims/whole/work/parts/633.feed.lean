theorem fd_x {n0 : Nat} {f : Nat → Nat → Int32} (e : f 123 0 = nI n0) (a0 a1 a2 a3 a4 : Int32) (hn : n0 + 20 ≤ 400) : x_feed a0 a1 a2 a3 a4 f = some (nI (n0 + 20), fd_u 124 123 0 n0 (fd_b a0 a1 a2 a3 a4) f 20) := by
  unfold x_feed
  rw [if_neg (show ¬ (400 : Int32) < f 123 0 + 20 from by rw [e, show (20 : Int32) = nI 20 from rfl, nI_add]; exact nI_nlt (a := 400) (by omega) (by omega))]
  have hb : ∀ k, k < 5 → ∀ i, i < 4 → fd_b a0 a1 a2 a3 a4 (4 * k + i) = ((fd_w a0 a1 a2 a3 a4 (4 * k)).toUInt32 >>> (nI (24 - 8 * i)).toUInt32).toInt32 &&& 255 := by
    intro k hk i hi
    unfold fd_b
    rw [show (4 * k + i) % 4 = i from by omega]
    have : fd_w a0 a1 a2 a3 a4 (4 * k + i) = fd_w a0 a1 a2 a3 a4 (4 * k) := by
      rcases (show k = 0 ∨ k = 1 ∨ k = 2 ∨ k = 3 ∨ k = 4 by omega) with rfl | rfl | rfl | rfl | rfl <;> rcases (show i = 0 ∨ i = 1 ∨ i = 2 ∨ i = 3 by omega) with rfl | rfl | rfl | rfl <;> rfl
    rw [this]
  have p : ∀ k, k < 5 → xt_put (fd_w a0 a1 a2 a3 a4 (4 * k)) (fd_u 124 123 0 n0 (fd_b a0 a1 a2 a3 a4) f (4 * k)) = some (fd_u 124 123 0 n0 (fd_b a0 a1 a2 a3 a4) f (4 * k + 4)) := fun k hk => fd_put e k _ (by omega) (hb k hk)
  have p0 : xt_put a0 f = some (fd_u 124 123 0 n0 (fd_b a0 a1 a2 a3 a4) f 4) := p 0 (by decide)
  have p1 : xt_put a1 (fd_u 124 123 0 n0 (fd_b a0 a1 a2 a3 a4) f 4) = some (fd_u 124 123 0 n0 (fd_b a0 a1 a2 a3 a4) f 8) := p 1 (by decide)
  have p2 : xt_put a2 (fd_u 124 123 0 n0 (fd_b a0 a1 a2 a3 a4) f 8) = some (fd_u 124 123 0 n0 (fd_b a0 a1 a2 a3 a4) f 12) := p 2 (by decide)
  have p3 : xt_put a3 (fd_u 124 123 0 n0 (fd_b a0 a1 a2 a3 a4) f 12) = some (fd_u 124 123 0 n0 (fd_b a0 a1 a2 a3 a4) f 16) := p 3 (by decide)
  have p4 : xt_put a4 (fd_u 124 123 0 n0 (fd_b a0 a1 a2 a3 a4) f 16) = some (fd_u 124 123 0 n0 (fd_b a0 a1 a2 a3 a4) f 20) := p 4 (by decide)
  rw [p0, pu_bs, p1, pu_bs, p2, pu_bs, p3, pu_bs, p4, pu_bs, fd_n e]
theorem sm_feed (x1 x2 x3 x4 x5 : Int32) (f g : Nat → Nat → Int32) (h : rl_Rel f g) : ∃ (v : Int32) (f1 g1 : Nat → Nat → Int32), x_feed x1 x2 x3 x4 x5 f = some (v, f1) ∧ m_feed x1 x2 x3 x4 x5 g = some (v, g1) ∧ rl_Rel f1 g1 := by
  obtain ⟨n, n1, n2, n3, n4⟩ := h.2.2.2.1
  by_cases hn : n + 20 ≤ 400
  · refine ⟨_, _, _, fd_x n2 x1 x2 x3 x4 x5 hn, fd_m n3 x1 x2 x3 x4 x5 hn, ?_⟩
    obtain ⟨h1, h2, h3, h4, ⟨h5, h5'⟩, h6, h7⟩ := h
    have F : ∀ a, a ≠ 124 → a ≠ 123 → fd_u 124 123 0 n (fd_b x1 x2 x3 x4 x5) f 20 a = f a := fd_ne 20
    have G : ∀ a, a ≠ 224 → a ≠ 216 → fd_u 224 216 16 n (fd_b x1 x2 x3 x4 x5) g 20 a = g a := fd_ne 20
    have N : ∀ m, m ≠ 16 → fd_u 224 216 16 n (fd_b x1 x2 x3 x4 x5) g 20 216 m = g 216 m := fd_N (by decide) 20
    refine ⟨?_, ?_, ?_, ⟨n + 20, hn, fd_n n2 20, fd_n n3 20, fun i hi => ?_⟩, ⟨?_, ?_⟩, ?_, ?_⟩
    · rw [G 217 (by decide) (by decide)]
      exact h1.congr fun a x y => F _ (by omega) (by omega)
    · unfold rl_Im at h2 ⊢
      rw [F 0 (by decide) (by decide), N 5 (by decide), G 218 (by decide) (by decide)]
      rcases h2 with h2 | ⟨x, y, z⟩
      · exact Or.inl h2
      · exact Or.inr ⟨x, y, z.congr fun a x y => F _ (by omega) (by omega)⟩
    · exact h3.same (by rw [F 109 (by decide) (by decide)]) (by rw [F 0 (by decide) (by decide)]) (N 4 (by decide)) (fun a ha => F a (by omega) (by omega)) (by rw [G 219 (by decide) (by decide)]) (fun i _ _ => by rw [G 217 (by decide) (by decide)])
    · rw [fd_A (by decide), fd_A (by decide)]
      by_cases c : n ≤ i ∧ i < n + 20
      · rw [if_pos c, if_pos c]
        obtain ⟨z, z1, z2⟩ := fd_and ((fd_w x1 x2 x3 x4 x5 (i - n)).toUInt32 >>> (nI (24 - 8 * ((i - n) % 4))).toUInt32).toInt32
        exact ⟨z, z1, z2, z2⟩
      · rw [if_neg c, if_neg c]
        exact n4 i (by omega)
    · rw [F 128 (by decide) (by decide), N 23 (by decide)]
      exact h5
    · rw [F 128 (by decide) (by decide), N 25 (by decide)]
      exact h5'
    · unfold rl_Ni at h6 ⊢
      rw [F 143 (by decide) (by decide), F 150 (by decide) (by decide)]
      exact h6
    · unfold rl_Pr at h7 ⊢
      rw [F 143 (by decide) (by decide), F 153 (by decide) (by decide), F 144 (by decide) (by decide)]
      exact h7
  · unfold x_feed m_feed
    rw [n2, n3, show (20 : Int32) = nI 20 from rfl, nI_add, if_pos (show (400 : Int32) < nI (n + 20) from nI_lt (a := 400) (by omega) (by omega)), if_pos (show (400 : Int32) < nI (n + 20) from nI_lt (a := 400) (by omega) (by omega))]
    exact ⟨-1, f, g, rfl, rfl, h⟩
