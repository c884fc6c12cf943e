/-! THE LAW IS ASKED: both sides come to the same -/
theorem lw_j23 (a b : Int32) : xb_joined (nI 43) a b = some (m_both (nI 23) a b) := by
  have e1 : nI 43 = (43 : Int32) := rfl
  have e2 : nI 23 = (23 : Int32) := rfl
  rw [e1, e2]
  unfold xb_joined m_both
  rw [if_neg (show ¬ (43 : Int32) = 38 by decide), if_neg (show ¬ (43 : Int32) = 42 by decide), if_pos (show (43 : Int32) = 43 from rfl), if_pos (show (23 : Int32) = 23 from rfl)]
theorem lw_j24 (a b : Int32) : xb_joined (nI 45) a b = some (m_both (nI 24) a b) := by
  have e1 : nI 45 = (45 : Int32) := rfl
  have e2 : nI 24 = (24 : Int32) := rfl
  rw [e1, e2]
  unfold xb_joined m_both
  rw [if_neg (show ¬ (45 : Int32) = 38 by decide), if_neg (show ¬ (45 : Int32) = 42 by decide), if_neg (show ¬ (45 : Int32) = 43 by decide), if_pos (show (45 : Int32) = 45 from rfl), if_neg (show ¬ (24 : Int32) = 23 by decide), if_pos (show (24 : Int32) = 24 from rfl)]
theorem lw_j25 (a b : Int32) : xb_joined (nI 42) a b = some (m_both (nI 25) a b) := by
  have e1 : nI 42 = (42 : Int32) := rfl
  have e2 : nI 25 = (25 : Int32) := rfl
  rw [e1, e2]
  unfold xb_joined m_both
  rw [if_neg (show ¬ (42 : Int32) = 38 by decide), if_pos (show (42 : Int32) = 42 from rfl), if_neg (show ¬ (25 : Int32) = 23 by decide), if_neg (show ¬ (25 : Int32) = 24 by decide), if_pos (show (25 : Int32) = 25 from rfl)]
theorem lw_j27 (a b : Int32) : xb_joined (nI 60) a b = some (m_both (nI 27) a b) := by
  have e1 : nI 60 = (60 : Int32) := rfl
  have e2 : nI 27 = (27 : Int32) := rfl
  rw [e1, e2]
  unfold xb_joined m_both
  rw [if_neg (show ¬ (60 : Int32) = 38 by decide), if_neg (show ¬ (60 : Int32) = 42 by decide), if_neg (show ¬ (60 : Int32) = 43 by decide), if_neg (show ¬ (60 : Int32) = 45 by decide), if_neg (show ¬ (60 : Int32) = 47 by decide), if_pos (show (60 : Int32) = 60 from rfl), if_neg (show ¬ (27 : Int32) = 23 by decide), if_neg (show ¬ (27 : Int32) = 24 by decide), if_neg (show ¬ (27 : Int32) = 25 by decide), if_pos (show (27 : Int32) = 27 from rfl)]
  by_cases h : a < b
  · rw [if_pos h, if_pos h]
  · rw [if_neg h, if_neg h]
theorem lw_j28 (a b : Int32) : xb_joined (nI 61) a b = some (m_both (nI 28) a b) := by
  have e1 : nI 61 = (61 : Int32) := rfl
  have e2 : nI 28 = (28 : Int32) := rfl
  rw [e1, e2]
  unfold xb_joined m_both
  rw [if_neg (show ¬ (61 : Int32) = 38 by decide), if_neg (show ¬ (61 : Int32) = 42 by decide), if_neg (show ¬ (61 : Int32) = 43 by decide), if_neg (show ¬ (61 : Int32) = 45 by decide), if_neg (show ¬ (61 : Int32) = 47 by decide), if_neg (show ¬ (61 : Int32) = 60 by decide), if_pos (show (61 : Int32) = 61 from rfl), if_neg (show ¬ (28 : Int32) = 23 by decide), if_neg (show ¬ (28 : Int32) = 24 by decide), if_neg (show ¬ (28 : Int32) = 25 by decide), if_neg (show ¬ (28 : Int32) = 27 by decide), if_pos (show (28 : Int32) = 28 from rfl)]
  by_cases h : a = b
  · rw [if_pos h, if_pos h]
  · rw [if_neg h, if_neg h]
theorem lw_j29 (a b : Int32) : xb_joined (nI 62) a b = some (m_both (nI 29) a b) := by
  have e1 : nI 62 = (62 : Int32) := rfl
  have e2 : nI 29 = (29 : Int32) := rfl
  rw [e1, e2]
  unfold xb_joined m_both
  rw [if_neg (show ¬ (62 : Int32) = 38 by decide), if_neg (show ¬ (62 : Int32) = 42 by decide), if_neg (show ¬ (62 : Int32) = 43 by decide), if_neg (show ¬ (62 : Int32) = 45 by decide), if_neg (show ¬ (62 : Int32) = 47 by decide), if_neg (show ¬ (62 : Int32) = 60 by decide), if_neg (show ¬ (62 : Int32) = 61 by decide), if_pos (show (62 : Int32) = 62 from rfl), if_neg (show ¬ (29 : Int32) = 23 by decide), if_neg (show ¬ (29 : Int32) = 24 by decide), if_neg (show ¬ (29 : Int32) = 25 by decide), if_neg (show ¬ (29 : Int32) = 27 by decide), if_neg (show ¬ (29 : Int32) = 28 by decide), if_pos (show (29 : Int32) = 29 from rfl)]
  by_cases h : b < a
  · rw [if_pos h, if_pos h]
  · rw [if_neg h, if_neg h]
theorem lw_j31 (a b : Int32) : xb_joined (nI 38) a b = some (m_both (nI 31) a b) := by
  have e1 : nI 38 = (38 : Int32) := rfl
  have e2 : nI 31 = (31 : Int32) := rfl
  rw [e1, e2]
  unfold xb_joined m_both
  rw [if_pos (show (38 : Int32) = 38 from rfl), if_neg (show ¬ (31 : Int32) = 23 by decide), if_neg (show ¬ (31 : Int32) = 24 by decide), if_neg (show ¬ (31 : Int32) = 25 by decide), if_neg (show ¬ (31 : Int32) = 27 by decide), if_neg (show ¬ (31 : Int32) = 28 by decide), if_neg (show ¬ (31 : Int32) = 29 by decide), if_pos (show (31 : Int32) = 31 from rfl)]
theorem lw_j32 (a b : Int32) : xb_joined (nI 124) a b = some (m_both (nI 32) a b) := by
  have e1 : nI 124 = (124 : Int32) := rfl
  have e2 : nI 32 = (32 : Int32) := rfl
  rw [e1, e2]
  unfold xb_joined m_both
  rw [if_neg (show ¬ (124 : Int32) = 38 by decide), if_neg (show ¬ (124 : Int32) = 42 by decide), if_neg (show ¬ (124 : Int32) = 43 by decide), if_neg (show ¬ (124 : Int32) = 45 by decide), if_neg (show ¬ (124 : Int32) = 47 by decide), if_neg (show ¬ (124 : Int32) = 60 by decide), if_neg (show ¬ (124 : Int32) = 61 by decide), if_neg (show ¬ (124 : Int32) = 62 by decide), if_neg (show ¬ (32 : Int32) = 23 by decide), if_neg (show ¬ (32 : Int32) = 24 by decide), if_neg (show ¬ (32 : Int32) = 25 by decide), if_neg (show ¬ (32 : Int32) = 27 by decide), if_neg (show ¬ (32 : Int32) = 28 by decide), if_neg (show ¬ (32 : Int32) = 29 by decide), if_neg (show ¬ (32 : Int32) = 31 by decide)]
theorem lw_b3 {k : Nat} (hk : k = 27 ∨ k = 28 ∨ k = 29) (a b : Int32) : m_both (nI k) a b = 0 ∨ m_both (nI k) a b = 1 := by
  rcases hk with rfl | rfl | rfl
  · have := lw_j27 a b
    by_cases h : a < b
    · exact Or.inr (by unfold m_both; rw [if_neg (by decide), if_neg (by decide), if_neg (by decide), if_pos (by decide), if_pos h])
    · exact Or.inl (by unfold m_both; rw [if_neg (by decide), if_neg (by decide), if_neg (by decide), if_pos (by decide), if_neg h])
  · by_cases h : a = b
    · exact Or.inr (by unfold m_both; rw [if_neg (by decide), if_neg (by decide), if_neg (by decide), if_neg (by decide), if_pos (by decide), if_pos h])
    · exact Or.inl (by unfold m_both; rw [if_neg (by decide), if_neg (by decide), if_neg (by decide), if_neg (by decide), if_pos (by decide), if_neg h])
  · by_cases h : b < a
    · exact Or.inr (by unfold m_both; rw [if_neg (by decide), if_neg (by decide), if_neg (by decide), if_neg (by decide), if_neg (by decide), if_pos (by decide), if_pos h])
    · exact Or.inl (by unfold m_both; rw [if_neg (by decide), if_neg (by decide), if_neg (by decide), if_neg (by decide), if_neg (by decide), if_pos (by decide), if_neg h])
theorem lw_b2 {k : Nat} (hk : k = 31 ∨ k = 32) {a b : Int32} (ha : a = 0 ∨ a = 1) (hb : b = 0 ∨ b = 1) : m_both (nI k) a b = 0 ∨ m_both (nI k) a b = 1 := by
  rcases hk with rfl | rfl <;> rcases ha with rfl | rfl <;> rcases hb with rfl | rfl <;> decide
theorem lw_es_cons (s : lw_S) (P : List lw_S) : lw_es (s :: P) = lw_e s ++ lw_es P := by
  unfold lw_es
  rw [List.flatMap_cons]
section LE
variable {f g : Nat → Nat → Int32} {w : Nat} {nm : Nat → Int32} {e e' : Nat}
/-- one step with two of the stack -/
theorem lw_one2 (hw : f 14 1 = nI w) (hw4 : w ≤ 400) (he : e ≤ w) (he' : e' ≤ 405) {k sg : Nat} (hj : ∀ a b, xb_joined (nI sg) a b = some (m_both (nI k) a b)) (hsg : sg < 1000) (h33 : sg ≠ 33) (k1 : 23 ≤ k) (k2 : k < 100) (k3 : k ≠ 26) (k4 : k ≠ 30) {x y : Int32} {r : List Int32} {a a' : Nat} {u u' : Nat → Int32} (hu : lw_u u (y :: x :: r)) (hu' : lw_u u' (y :: x :: r)) (hl : r.length + 2 ≤ 60) (ha : a < e) (ha' : a' < e') (hc : f 15 a = nI (20000 + sg)) (hm : g 217 (1188 + 2 * a') = nI k) :
    ∃ u1 u1', lw_X (nI e) (nI (y :: x :: r).length, nI a, am_row f 122 u) = some (.inl (nI (m_both (nI k) x y :: r).length, nI (a + 1), am_row f 122 u1)) ∧ lw_M (nI e') (nI (y :: x :: r).length, nI a', am_row g 225 u') = some (.inl (nI (m_both (nI k) x y :: r).length, nI (a' + 1), am_row g 225 u1')) ∧ lw_u u1 (m_both (nI k) x y :: r) ∧ lw_u u1' (m_both (nI k) x y :: r) := by
  obtain ⟨p1, p2, p3⟩ := hu
  obtain ⟨q1, q2, q3⟩ := hu'
  have p1 : u (r.length + 1) = y := p1
  have q1 : u' (r.length + 1) = y := q1
  refine ⟨upd u r.length (m_both (nI k) x y), upd u' r.length (m_both (nI k) x y), ?_, ?_, lw_u_push p3 _, lw_u_push q3 _⟩
  · refine lw_X_st ha hw (by omega) hw4 (show r.length + 2 < 64 by omega) (by omega) hc ?_
    refine lw_Xs_bin (by omega) hsg h33 ?_
    rw [p1, p2]
    exact hj x y
  · refine lw_M_st ha' he' hm rfl ?_
    have := lw_Ms_bin (g := g) (u := u') (h := r.length) (by omega) k1 k2 k3 k4 (g 217 (1189 + 2 * a'))
    rw [q1, q2] at this
    exact this
/-- a step with two of the stack, whole -/
theorem lw_asm2 (hw : f 14 1 = nI w) (hw4 : w ≤ 400) (he : e ≤ w) (he' : e' ≤ 405) {k v sg : Nat} (hj : ∀ a b, xb_joined (nI sg) a b = some (m_both (nI k) a b)) (hsg : sg < 1000) (h33 : sg ≠ 33) (k1 : 23 ≤ k) (k2 : k < 100) (k3 : k ≠ 26) (k4 : k ≠ 30) (e1 : lw_e (k, v) = [20000 + sg]) {b b1 b2 : Bool} {t : List Bool} (hb : b = true → ∀ x y : Int32, (b1 = true → y = 0 ∨ y = 1) → (b2 = true → x = 0 ∨ x = 1) → m_both (nI k) x y = 0 ∨ m_both (nI k) x y = 1) {st : List Int32} {a a' : Nat} {u u' : Nat → Int32} (hu : lw_u u st) (hu' : lw_u u' st) (ht : lw_ty (b1 :: b2 :: t) st) (hl : (b1 :: b2 :: t).length ≤ 60) (ha : a + (lw_e (k, v)).length ≤ e) (ha' : a' < e') (hc : ∀ t x, (lw_e (k, v))[t]? = some x → f 15 (a + t) = nI x) (hm : g 217 (1188 + 2 * a') = nI k) :
    ∃ u1 u1', pu_st (lw_X (nI e)) (lw_e (k, v)).length (nI st.length, nI a, am_row f 122 u) (nI (lw_v nm (k, v) st).length, nI (a + (lw_e (k, v)).length), am_row f 122 u1) ∧ lw_M (nI e') (nI st.length, nI a', am_row g 225 u') = some (.inl (nI (lw_v nm (k, v) st).length, nI (a' + 1), am_row g 225 u1')) ∧ lw_u u1 (lw_v nm (k, v) st) ∧ lw_u u1' (lw_v nm (k, v) st) ∧ lw_ty (b :: t) (lw_v nm (k, v) st) := by
  match st, ht with
  | [], ht => cases ht
  | [_], ht => exact absurd ht.2 (fun z => z)
  | y :: x :: r, ht =>
    have e2 : lw_v nm (k, v) (y :: x :: r) = m_both (nI k) x y :: r := by
      show (if k = 0 then nI v :: y :: x :: r else if k ≤ 10 then nm k :: y :: x :: r else if k = 26 then _ else if k = 30 then _ else m_both (nI k) x y :: r) = _
      rw [if_neg (by omega), if_neg (by omega), if_neg k3, if_neg k4]
    rw [e1] at hc ha ⊢
    rw [e2]
    have hr := ht.2.2.len
    have hl' : t.length + 2 ≤ 60 := hl
    have hc0 : f 15 a = nI (20000 + sg) := hc 0 _ rfl
    have ha1 : a + 1 ≤ e := ha
    obtain ⟨u1, u1', p1, p2, p3, p4⟩ := lw_one2 (g := g) hw hw4 he he' hj hsg h33 k1 k2 k3 k4 hu hu' (by omega) (by omega) ha' hc0 hm
    exact ⟨u1, u1', pu_st1 p1, p2, p3, p4, ⟨fun z => hb z x y ht.1 ht.2.1, ht.2.2⟩⟩
theorem lw_one (hw : f 14 1 = nI w) (hw4 : w ≤ 400) (he : e ≤ w) (he' : e' ≤ 405) (hnx : ∀ q, 1 ≤ q → q ≤ 10 → f 121 (q + 6) = nm q) (hnm : ∀ q, 1 ≤ q → q ≤ 10 → g 226 q = nm q) {s : lw_S} {ty ty1 : List Bool} (hk : lw_k s ty = some ty1) {st : List Int32} {a a' : Nat} {u u' : Nat → Int32} (hu : lw_u u st) (hu' : lw_u u' st) (ht : lw_ty ty st) (hl : ty.length ≤ 60) (ha : a + (lw_e s).length ≤ e) (ha' : a' < e') (hc : ∀ t x, (lw_e s)[t]? = some x → f 15 (a + t) = nI x) (hm : g 217 (1188 + 2 * a') = nI s.1 ∧ ((s.1 = 0 ∨ s.1 = 26) → g 217 (1189 + 2 * a') = nI s.2)) :
    ∃ u1 u1', pu_st (lw_X (nI e)) (lw_e s).length (nI st.length, nI a, am_row f 122 u) (nI (lw_v nm s st).length, nI (a + (lw_e s).length), am_row f 122 u1) ∧ lw_M (nI e') (nI st.length, nI a', am_row g 225 u') = some (.inl (nI (lw_v nm s st).length, nI (a' + 1), am_row g 225 u1')) ∧ lw_u u1 (lw_v nm s st) ∧ lw_u u1' (lw_v nm s st) ∧ lw_ty ty1 (lw_v nm s st) := by
  obtain ⟨k, v⟩ := s
  have hlen := ht.len
  by_cases h0 : k = 0
  · subst h0
    have hk : (if v ≤ 9999 then some (false :: ty) else none) = some ty1 := hk
    obtain ⟨hv, hk⟩ := am_grd hk
    cases hk
    have hc0 : f 15 a = nI v := hc 0 v rfl
    refine ⟨upd u st.length (nI v), upd u' st.length (nI v), pu_st1 (lw_X_st (by have : a + 1 ≤ e := ha; omega) hw (by have : a + 1 ≤ e := ha; omega) hw4 (by omega) (by omega) hc0 (lw_Xs_num (by omega) (by omega))), ?_, lw_u_push hu _, lw_u_push hu' _, ⟨fun z => absurd z (by decide), ht⟩⟩
    exact lw_M_st ha' he' hm.1 (hm.2 (Or.inl rfl)) (lw_Ms_num (by omega) _)
  by_cases h10 : k ≤ 10
  · have e1 : lw_e (k, v) = [10006 + k] := by
      show (if k = 0 then [v] else if k ≤ 10 then [10006 + k] else _) = _
      rw [if_neg h0, if_pos h10]
    have e2 : lw_v nm (k, v) st = nm k :: st := by
      show (if k = 0 then nI v :: st else if k ≤ 10 then nm k :: st else _) = _
      rw [if_neg h0, if_pos h10]
    have e3 : lw_k (k, v) ty = some (false :: ty) := by
      show (if k = 0 then _ else if k ≤ 10 then some (false :: ty) else _) = _
      rw [if_neg h0, if_pos h10]
    rw [e3] at hk
    cases hk
    rw [e1] at hc ha ⊢
    rw [e2]
    have hc0 : f 15 a = nI (10000 + (k + 6)) := by
      have := hc 0 (10006 + k) rfl
      rw [show 10000 + (k + 6) = 10006 + k by omega]
      exact this
    refine ⟨upd u st.length (nm k), upd u' st.length (nm k), pu_st1 ?_, ?_, lw_u_push hu _, lw_u_push hu' _, ⟨fun z => absurd z (by decide), ht⟩⟩
    · refine lw_X_st (by have : a + 1 ≤ e := ha; omega) hw (by have : a + 1 ≤ e := ha; omega) hw4 (by omega) (by omega) hc0 ?_
      have := lw_Xs_nam (f := f) (u := u) (h := st.length) (v := k + 6) (by omega) (by omega)
      rw [hnx k (by omega) h10] at this
      exact this
    · refine lw_M_st ha' he' hm.1 rfl ?_
      have := lw_Ms_nam (g := g) (u := u') (h := st.length) (s := k) (by omega) (by omega) h10 (g 217 (1189 + 2 * a'))
      rw [hnm k (by omega) h10] at this
      exact this
  have hE : ∀ l : List Nat, (if k = 0 then [v] else if k ≤ 10 then [10006 + k] else l) = l := fun l => by rw [if_neg h0, if_neg h10]
  have hK : lw_k (k, v) ty = some ty1 := hk
  unfold lw_k at hK
  dsimp only at hK
  rw [if_neg h0, if_neg h10] at hK
  have wrong : ∀ {α : Prop}, (none : Option (List Bool)) = some ty1 → α := fun z => by cases z
  by_cases h23 : k = 23
  · subst h23
    rw [if_pos (by decide)] at hK
    match ty, hK, ht, hl with
    | false :: false :: t, hK, ht, hl =>
      cases hK
      exact lw_asm2 hw hw4 he he' (sg := 43) lw_j23 (by decide) (by decide) (by decide) (by decide) (by decide) (by decide) rfl (fun z => absurd z (by decide)) hu hu' ht hl ha ha' hc hm.1
  by_cases h24 : k = 24
  · subst h24
    rw [if_pos (by decide)] at hK
    match ty, hK, ht, hl with
    | false :: false :: t, hK, ht, hl =>
      cases hK
      exact lw_asm2 hw hw4 he he' (sg := 45) lw_j24 (by decide) (by decide) (by decide) (by decide) (by decide) (by decide) rfl (fun z => absurd z (by decide)) hu hu' ht hl ha ha' hc hm.1
  by_cases h25 : k = 25
  · subst h25
    rw [if_pos (by decide)] at hK
    match ty, hK, ht, hl with
    | false :: false :: t, hK, ht, hl =>
      cases hK
      exact lw_asm2 hw hw4 he he' (sg := 42) lw_j25 (by decide) (by decide) (by decide) (by decide) (by decide) (by decide) rfl (fun z => absurd z (by decide)) hu hu' ht hl ha ha' hc hm.1
  rw [if_neg (by omega)] at hK
  by_cases h26 : k = 26
  · subst h26
    rw [if_pos rfl] at hK
    match ty, hK, ht, hl with
    | false :: t, hK, ht, hl =>
      obtain ⟨⟨v1, v2⟩, hK⟩ := am_grd hK
      cases hK
      match st, ht, hu, hu', hlen with
      | y :: r, ht, hu, hu', hlen =>
        have hr := ht.2.len
        have hl' : t.length + 1 ≤ 60 := hl
        have e2 : lw_v nm (26, v) (y :: r) = y / nI v :: r := rfl
        have e1 : lw_e (26, v) = [v, 20047] := rfl
        rw [e1] at hc ha ⊢
        rw [e2]
        have ha1 : a + 2 ≤ e := ha
        have hc0 : f 15 a = nI v := hc 0 _ rfl
        have hc1 : f 15 (a + 1) = nI (20000 + 47) := hc 1 _ rfl
        obtain ⟨p1, p2⟩ := hu
        obtain ⟨q1, q2⟩ := hu'
        refine ⟨upd (upd u (r.length + 1) (nI v)) r.length (y / nI v), upd u' r.length (y / nI v), ⟨_, lw_X_st (by omega) hw (by omega) hw4 (show r.length + 1 < 64 by omega) (by omega) hc0 (lw_Xs_num (by omega) (by omega)), ?_⟩, ?_, ?_, lw_u_push q2 _, ⟨fun z => absurd z (by decide), ht.2⟩⟩
        · refine pu_st1 (lw_X_st (by omega) hw (by omega) hw4 (show r.length + 2 < 64 by omega) (by omega) hc1 ?_)
          refine lw_Xs_bin (by omega) (by decide) (by decide) ?_
          rw [pu_upd_eq, pu_upd_ne _ _ (by omega), p1]
          show xb_joined (47 : Int32) y (nI v) = some (y / nI v)
          unfold xb_joined
          rw [if_neg (by decide), if_neg (by decide), if_neg (by decide), if_neg (by decide), if_pos rfl, if_neg (nI_ne0 (by omega) (by omega)), if_neg (nI_ne0 (by omega) (by omega))]
        · refine lw_M_st ha' he' hm.1 (hm.2 (Or.inr rfl)) ?_
          have := lw_Ms_part (g := g) (u := u') (h := r.length) (by omega) v1 v2
          rw [q1] at this
          exact this
        · exact ⟨pu_upd_eq _ _ _, lw_u_upd _ (lw_u_upd _ p2 (by omega)) (Nat.le_refl _)⟩
  rw [if_neg h26] at hK
  by_cases h27 : k = 27
  · subst h27
    rw [if_pos (by decide)] at hK
    match ty, hK, ht, hl with
    | false :: false :: t, hK, ht, hl =>
      cases hK
      exact lw_asm2 hw hw4 he he' (sg := 60) lw_j27 (by decide) (by decide) (by decide) (by decide) (by decide) (by decide) rfl (fun _ x y _ _ => lw_b3 (by decide) x y) hu hu' ht hl ha ha' hc hm.1
  by_cases h28 : k = 28
  · subst h28
    rw [if_pos (by decide)] at hK
    match ty, hK, ht, hl with
    | false :: false :: t, hK, ht, hl =>
      cases hK
      exact lw_asm2 hw hw4 he he' (sg := 61) lw_j28 (by decide) (by decide) (by decide) (by decide) (by decide) (by decide) rfl (fun _ x y _ _ => lw_b3 (by decide) x y) hu hu' ht hl ha ha' hc hm.1
  by_cases h29 : k = 29
  · subst h29
    rw [if_pos (by decide)] at hK
    match ty, hK, ht, hl with
    | false :: false :: t, hK, ht, hl =>
      cases hK
      exact lw_asm2 hw hw4 he he' (sg := 62) lw_j29 (by decide) (by decide) (by decide) (by decide) (by decide) (by decide) rfl (fun _ x y _ _ => lw_b3 (by decide) x y) hu hu' ht hl ha ha' hc hm.1
  rw [if_neg (by omega)] at hK
  by_cases h30 : k = 30
  · subst h30
    rw [if_pos rfl] at hK
    match ty, hK, ht, hl with
    | true :: t, hK, ht, hl =>
      cases hK
      match st, ht, hu, hu', hlen with
      | y :: r, ht, hu, hu', hlen =>
        have hr := ht.2.len
        have hl' : t.length + 1 ≤ 60 := hl
        have e2 : lw_v nm (30, v) (y :: r) = (1 - y) :: r := rfl
        have e1 : lw_e (30, v) = [20033] := rfl
        rw [e1] at hc ha ⊢
        rw [e2]
        have ha1 : a + 1 ≤ e := ha
        have hc0 : f 15 a = nI 20033 := hc 0 _ rfl
        obtain ⟨p1, p2⟩ := hu
        obtain ⟨q1, q2⟩ := hu'
        refine ⟨upd u r.length (1 - y), upd u' r.length (1 - y), pu_st1 (lw_X_st (by omega) hw (by omega) hw4 (show r.length + 1 < 64 by omega) (by omega) hc0 ?_), ?_, lw_u_push p2 _, lw_u_push q2 _, ⟨fun _ => ?_, ht.2⟩⟩
        · have := lw_Xs_not (f := f) (u := u) (h := r.length) (by omega)
          rw [p1] at this
          exact this
        · refine lw_M_st ha' he' hm.1 rfl ?_
          have := lw_Ms_not (g := g) (u := u') (h := r.length) (by omega) (g 217 (1189 + 2 * a'))
          rw [q1] at this
          exact this
        · rcases ht.1 rfl with rfl | rfl
          · exact Or.inr rfl
          · exact Or.inl rfl
  rw [if_neg h30] at hK
  by_cases h31 : k = 31
  · subst h31
    rw [if_pos (by decide)] at hK
    match ty, hK, ht, hl with
    | true :: true :: t, hK, ht, hl =>
      cases hK
      exact lw_asm2 hw hw4 he he' (sg := 38) lw_j31 (by decide) (by decide) (by decide) (by decide) (by decide) (by decide) rfl (fun _ x y hy hx => lw_b2 (by decide) (hx rfl) (hy rfl)) hu hu' ht hl ha ha' hc hm.1
  by_cases h32 : k = 32
  · subst h32
    rw [if_pos (by decide)] at hK
    match ty, hK, ht, hl with
    | true :: true :: t, hK, ht, hl =>
      cases hK
      exact lw_asm2 hw hw4 he he' (sg := 124) lw_j32 (by decide) (by decide) (by decide) (by decide) (by decide) (by decide) rfl (fun _ x y hy hx => lw_b2 (by decide) (hx rfl) (hy rfl)) hu hu' ht hl ha ha' hc hm.1
  rw [if_neg (by omega)] at hK
  cases hK
theorem lw_eval (hw : f 14 1 = nI w) (hw4 : w ≤ 400) (he : e ≤ w) (he' : e' ≤ 405) (hnx : ∀ q, 1 ≤ q → q ≤ 10 → f 121 (q + 6) = nm q) (hnm : ∀ q, 1 ≤ q → q ≤ 10 → g 226 q = nm q) : ∀ (P : List lw_S) (ty ty1 : List Bool) (st : List Int32) (a a' : Nat) (u u' : Nat → Int32), lw_ks P ty = some ty1 → lw_u u st → lw_u u' st → lw_ty ty st → lw_cX f 0 a P → lw_cM (g 217) a' P → a + (lw_es P).length ≤ e → a' + P.length ≤ e' →
    ∃ u1 u1', pu_st (lw_X (nI e)) (lw_es P).length (nI st.length, nI a, am_row f 122 u) (nI (lw_vs nm P st).length, nI (a + (lw_es P).length), am_row f 122 u1) ∧ pu_st (lw_M (nI e')) P.length (nI st.length, nI a', am_row g 225 u') (nI (lw_vs nm P st).length, nI (a' + P.length), am_row g 225 u1') ∧ lw_u u1 (lw_vs nm P st) ∧ lw_u u1' (lw_vs nm P st) ∧ lw_ty ty1 (lw_vs nm P st) := by
  intro P
  induction P with
  | nil =>
    intro ty ty1 st a a' u u' hk hu hu' ht _ _ _ _
    cases hk
    exact ⟨u, u', rfl, rfl, hu, hu', ht⟩
  | cons s P ih =>
    intro ty ty1 st a a' u u' hk hu hu' ht hc hm ha ha'
    have hk : (if ty.length ≤ 60 then (lw_k s ty).bind (lw_ks P) else none) = some ty1 := hk
    obtain ⟨hl, hk⟩ := am_grd hk
    obtain ⟨ty2, k1, k2⟩ := am_bind_some hk
    have el : (lw_es (s :: P)).length = (lw_e s).length + (lw_es P).length := by rw [lw_es_cons, List.length_append]
    rw [el] at ha ⊢
    rw [List.length_cons] at ha'
    have hcs : ∀ t x, (lw_e s)[t]? = some x → f 15 (a + t) = nI x := by
      intro t x hx
      refine hc t x ?_
      rw [lw_es_cons, List.getElem?_append_left (List.getElem?_eq_some_iff.mp hx).1]
      exact hx
    have hm0 := hm 0 s rfl
    rw [Nat.add_zero] at hm0
    obtain ⟨u1, u1', p1, p2, p3, p4, p5⟩ := lw_one hw hw4 he he' hnx hnm k1 hu hu' ht hl (by omega) (by omega) hcs hm0
    have hc2 : lw_cX f 0 (a + (lw_e s).length) P := by
      intro t x hx
      rw [show a + (lw_e s).length + t = a + ((lw_e s).length + t) by omega]
      refine hc _ x ?_
      rw [lw_es_cons, List.getElem?_append_right (by omega), Nat.add_sub_cancel_left]
      exact hx
    have hm2 : lw_cM (g 217) (a' + 1) P := by
      intro t x hx
      rw [show a' + 1 + t = a' + (t + 1) by omega]
      exact hm (t + 1) x hx
    obtain ⟨u2, u2', q1, q2, q3, q4, q5⟩ := ih ty2 ty1 (lw_v nm s st) (a + (lw_e s).length) (a' + 1) u1 u1' k2 p3 p4 p5 hc2 hm2 (by omega) (by omega)
    refine ⟨u2, u2', ?_, ?_, q3, q4, q5⟩
    · have := pu_st_trans _ _ p1 q1
      rw [Nat.add_assoc] at this
      exact this
    · have := pu_st_trans 1 _ (pu_st1 p2) q2
      rw [Nat.add_comm 1 P.length, Nat.add_assoc, Nat.add_comm 1 P.length] at this
      exact this
end LE
