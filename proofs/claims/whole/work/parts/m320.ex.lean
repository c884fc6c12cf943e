section ST
variable {D : va_G} {cA : Nat → ClassId} {B b0 : Nat} {adK adV : Nat → Nat} {sc : Nat × (Nat → Int32)} {own : String} {cc : ByteArray} {nL : Nat} {ini : Bool}
variable {p : Program} {l : Launch} {e : Env} {R : Room} {s : State} {m : MethodId} {args : Array Value} {below : List Frame} {meth : Method} {c0 : Code} {Q : State → Prop} {cd : List am_E} {L0 S0 : Nat}
variable {j pc : Nat} {ls ls1 : List (Nat × Value)} {st st1 : List Value} {sh sh1 : List am_Sh} {h h1 : am_H}
/-- an instruction that leaves the heap, and goes to the next -/
theorem am_s1 {n : Nat} (hp : ∀ q, cd[j]? = some q → q.2.1 = pc) (hj : ∃ q, cd[j]? = some q) (hnx : am_nxb cd (j + 1) pc n = true)
    (row : ∀ {H : Heap} {locs : List Loc} {lsA : Array Slot} {cells slots : Nat}, lv_has lsA nL (am_trl B b0 adK ls) → (∀ lsB, lv_has lsB nL (am_trl B b0 adK ls1) → W p l e R s m args below meth c0 H locs cells slots Q (F0 m (pc + n) lsB (st1.map (am_tr B b0 adK)))) → W p l e R s m args below meth c0 H locs cells slots Q (F0 m pc lsA (st.map (am_tr B b0 adK))))
    (k : am_AW D cA B b0 adK p l e R s m args below meth c0 Q nL cd L0 S0 (j + 1, ls1, st1, sh, h)) : am_AW D cA B b0 adK p l e R s m args below meth c0 Q nL cd L0 S0 (j, ls, st, sh, h) := by
  intro H locs lsA pc' hpc hl hW hS
  obtain ⟨q, hq⟩ := hj
  have e1 : pc' = pc := by rw [← hpc q hq, ← hp q hq]
  subst e1
  refine row hl fun lsB hB => k H locs lsB _ (fun q2 h2 => ?_) hB hW hS
  have h3 : cd[j + 1]? = some q2 := h2
  unfold am_nxb at hnx
  rw [h3] at hnx
  exact beq_iff_eq.mp hnx
/-- it goes to another place -/
theorem am_s2 {a : Nat} {off : Int} (hp : ∀ q, cd[j]? = some q → q.2.1 = pc) (hj : ∃ q, cd[j]? = some q) (ht : am_tgb cd a pc off = true)
    (row : ∀ {H : Heap} {locs : List Loc} {lsA : Array Slot} {cells slots : Nat} {tgt : Nat}, (pc : Int) + off = (tgt : Int) → lv_has lsA nL (am_trl B b0 adK ls) → (lv_has lsA nL (am_trl B b0 adK ls) → W p l e R s m args below meth c0 H locs cells slots Q (F0 m tgt lsA (st1.map (am_tr B b0 adK)))) → W p l e R s m args below meth c0 H locs cells slots Q (F0 m pc lsA (st.map (am_tr B b0 adK))))
    (k : am_AW D cA B b0 adK p l e R s m args below meth c0 Q nL cd L0 S0 (a, ls, st1, sh, h)) : am_AW D cA B b0 adK p l e R s m args below meth c0 Q nL cd L0 S0 (j, ls, st, sh, h) := by
  intro H locs lsA pc' hpc hl hW hS
  obtain ⟨q, hq⟩ := hj
  have e1 : pc' = pc := by rw [← hpc q hq, ← hp q hq]
  subst e1
  unfold am_tgb at ht
  cases ha : cd[a]? with
  | none => rw [ha] at ht; cases ht
  | some q2 =>
    rw [ha] at ht
    refine row (of_decide_eq_true ht) hl fun hB => k H locs lsA _ (fun q3 h3 => ?_) hB hW hS
    have h4 : cd[a]? = some q3 := h3
    rw [ha] at h4
    cases h4
    rfl
/-- an instruction that works on the heap -/
theorem am_s3 {n : Nat} (hp : ∀ q, cd[j]? = some q → q.2.1 = pc) (hj : ∃ q, cd[j]? = some q) (hnx : am_nxb cd (j + 1) pc n = true)
    (row : ∀ {H : Heap} {locs : List Loc} {lsA : Array Slot}, lsA.size = nL → am_Wd D cA B b0 sh h H → va_S (fun q => B ≤ q) s.heap H locs → (∀ H1 locs1, am_Wd D cA B b0 sh1 h1 H1 → va_S (fun q => B ≤ q) s.heap H1 locs1 → W p l e R s m args below meth c0 H1 locs1 (sh1.length - L0) (am_sl sh1 - S0) Q (F0 m (pc + n) lsA (st1.map (am_tr B b0 adK)))) → W p l e R s m args below meth c0 H locs (sh.length - L0) (am_sl sh - S0) Q (F0 m pc lsA (st.map (am_tr B b0 adK))))
    (k : am_AW D cA B b0 adK p l e R s m args below meth c0 Q nL cd L0 S0 (j + 1, ls, st1, sh1, h1)) : am_AW D cA B b0 adK p l e R s m args below meth c0 Q nL cd L0 S0 (j, ls, st, sh, h) := by
  intro H locs lsA pc' hpc hl hW hS
  obtain ⟨q, hq⟩ := hj
  have e1 : pc' = pc := by rw [← hpc q hq, ← hp q hq]
  subst e1
  refine row hl.1 hW hS fun H1 locs1 hW1 hS1 => k H1 locs1 lsA _ (fun q2 h2 => ?_) hl hW1 hS1
  have h3 : cd[j + 1]? = some q2 := h2
  unfold am_nxb at hnx
  rw [h3] at hnx
  exact beq_iff_eq.mp hnx
theorem am_P1 {D : va_G} {q : Nat × va_E} {H1 : Heap} (h : va_at D vwCl q H1) : va_P D vwCl [q] H1 := by
  intro k y hy
  match k, hy with
  | 0, hy => cases hy; exact h
  | k + 1, hy => simp at hy
theorem am_bytes {n k : Nat} (h : n ≤ 10000) (hk : k ≤ 50000) : n * k ≤ 536870912 := Nat.le_trans (Nat.mul_le_mul h hk) (by decide)
theorem am_mapIdx_ref {g : Nat → Int32} {x b : Nat} {l : List (Option Nat)} (hr : b < l.length) : ((l.set b (some (x + 1))).mapIdx fun j r => am_fv B b0 g j r) = (l.mapIdx fun j r => am_fv B b0 g j r).set b (.ref (am_ad B b0 x)) := by
  apply List.ext_getElem?
  intro i
  rw [List.getElem?_mapIdx, List.getElem?_set, List.getElem?_set, List.getElem?_mapIdx, List.length_mapIdx]
  by_cases e : b = i
  · subst e
    rw [if_pos rfl, if_pos rfl, if_pos hr, if_pos hr]
    rfl
  · rw [if_neg e, if_neg e]
def am_gv (x : Int32) : Option Nat → Value
  | none => .int x
  | some 0 => .null
  | some (r + 1) => .ref r
theorem am_gv_tr {k b : Nat} {r : Option Nat} : am_fv B b0 (am_rw h k) b r = am_tr B b0 adK (am_gv (am_rd h k b) r) := by
  match r with
  | none => show Value.int _ = Value.int _; rw [am_rd_rw]
  | some 0 => rfl
  | some (x + 1) => rfl
theorem am_mapIdx_set {g : Nat → Int32} {x : Int32} {b : Nat} {l : List (Option Nat)} (hr : l[b]? = some none) : (l.mapIdx fun j r => am_fv B b0 (upd g b x) j r) = (l.mapIdx fun j r => am_fv B b0 g j r).set b (.int x) := by
  apply List.ext_getElem?
  intro i
  rw [List.getElem?_mapIdx, List.getElem?_set, List.getElem?_mapIdx, List.length_mapIdx]
  by_cases e : b = i
  · subst e
    rw [if_pos rfl, if_pos (List.getElem?_eq_some_iff.mp hr).1, hr]
    show some (Value.int (upd g b x b)) = _
    rw [pk_us]
  · rw [if_neg e]
    cases l[i]? with
    | none => rfl
    | some r =>
      match r with
      | none => show some (Value.int (upd g b x i)) = _; rw [pk_un (fun z => e z.symm)]; rfl
      | some 0 => rfl
      | some (y + 1) => rfl
/-- a branch not taken -/
theorem am_sb1 {a n : Nat} {off : Int} (hp : ∀ q, cd[j]? = some q → q.2.1 = pc) (hj : ∃ q, cd[j]? = some q) (ht : am_tgb cd a pc off = true) (hnx : am_nxb cd (j + 1) pc n = true)
    (row : ∀ {H : Heap} {locs : List Loc} {lsA : Array Slot} {cells slots : Nat} {tgt : Nat}, (pc : Int) + off = (tgt : Int) → lv_has lsA nL (am_trl B b0 adK ls) → (lv_has lsA nL (am_trl B b0 adK ls) → W p l e R s m args below meth c0 H locs cells slots Q (F0 m (pc + n) lsA (st1.map (am_tr B b0 adK)))) → W p l e R s m args below meth c0 H locs cells slots Q (F0 m pc lsA (st.map (am_tr B b0 adK))))
    (k : am_AW D cA B b0 adK p l e R s m args below meth c0 Q nL cd L0 S0 (j + 1, ls, st1, sh, h)) : am_AW D cA B b0 adK p l e R s m args below meth c0 Q nL cd L0 S0 (j, ls, st, sh, h) := by
  unfold am_tgb at ht
  cases ha : cd[a]? with
  | none => rw [ha] at ht; cases ht
  | some q2 =>
    rw [ha] at ht
    refine am_s1 hp hj hnx ?_ k
    exact fun hl kk => row (of_decide_eq_true ht) hl (fun hl => kk _ hl)
theorem am_nlt {x y : Int32} (h : ¬ x < y) : y ≤ x := Int32.not_lt.mp h
theorem am_nle {x y : Int32} (h : y ≤ x) (h2 : x < y) : False := absurd h (Int32.not_le.mpr h2)
theorem am_fd_of {a b idx pos c : Nat} {put : Bool} (hf : am_fdb own a b idx pos c ini put = true) : ∃ (C : String) (T : u_T) (N : Nat), vwCl[a]? = some (C, T, N) ∧ b < N ∧ (T b).1 = C ∧ Cond.fieldLink own idx C (T b).2.1 (T b).2.2.1 ∈ am_wl0 ∧
    (put = true → (c = 1 → (T b).2.2.2 = true ∧ ini = true ∧ (T b).1 = own ∧ ((∃ x, parseFieldDescriptor (T b).2.2.1 = some (.object x)) ∨ ∃ x, parseFieldDescriptor (T b).2.2.1 = some (.array x))) ∧ (¬ c = 1 → (T b).2.2.2 = false ∧ (c = 0 → parseFieldDescriptor (T b).2.2.1 = some .int) ∧ (c = 2 → parseFieldDescriptor (T b).2.2.1 = some .boolean))) := by
  unfold am_fdb at hf
  cases hq : vwCl[a]? with
  | none => rw [hq] at hf; cases hf
  | some q =>
    obtain ⟨C, T, N⟩ := q
    rw [hq] at hf
    simp only [Bool.and_eq_true, decide_eq_true_eq] at hf
    obtain ⟨⟨⟨h1, h0⟩, h2⟩, h3⟩ := hf
    refine ⟨C, T, N, rfl, h1, h0, am_wl0_of (am_tb_mem h2) rfl, fun hput => ?_⟩
    rw [if_pos hput] at h3
    refine ⟨fun hc => ?_, fun hc => ?_⟩
    · rw [if_pos hc] at h3
      simp only [Bool.and_eq_true, decide_eq_true_eq] at h3
      obtain ⟨⟨⟨g1, g2⟩, g3⟩, g4⟩ := h3
      refine ⟨g1, g2, g3, ?_⟩
      split at g4
      · rename_i x hx
        exact Or.inl ⟨x, hx⟩
      · rename_i x hx
        exact Or.inr ⟨x, hx⟩
      · cases g4
    · rw [if_neg hc] at h3
      simp only [Bool.and_eq_true, decide_eq_true_eq] at h3
      refine ⟨h3.1, fun h0 => ?_, fun h2 => ?_⟩
      · rw [if_pos h0] at h3
        exact of_decide_eq_true h3.2
      · rw [if_neg (by omega)] at h3
        simp only [Bool.and_eq_true, decide_eq_true_eq] at h3
        exact h3.2.2
theorem am_swt_tgt {x : Int32} : ∀ {L : List (Int32 × Nat)} {d : Nat}, (∀ q ∈ L, ¬ x = q.1) → am_swt x L d = d
  | [], _, _ => rfl
  | q :: L, d, h => by
    unfold am_swt
    rw [if_neg (h q List.mem_cons_self)]
    exact am_swt_tgt fun q hq => h q (List.mem_cons_of_mem _ hq)
theorem am_cpy_lcmp (x y : Int64) : am_lcmp x y = lg_cmp x y := by
  unfold am_lcmp lg_cmp
  by_cases h1 : x < y
  · rw [if_pos h1, if_neg (fun z : y < x => Int64.lt_irrefl (Int64.lt_trans h1 z)), if_neg (fun z => by rw [z] at h1; exact Int64.lt_irrefl h1)]
  · rw [if_neg h1]
    by_cases h2 : x = y
    · subst h2
      rw [if_pos rfl, if_neg h1, if_pos rfl]
    · rw [if_neg h2]
      have h3 : y < x := by
        rw [Int64.lt_iff_toInt_lt] at h1 ⊢
        have h4 : ¬ x.toInt = y.toInt := fun z => h2 (Int64.toInt_inj.mp z)
        omega
      rw [if_pos h3]

set_option maxHeartbeats 8000000 in
set_option maxRecDepth 10000 in
theorem am_ex_sound {i : Jvm.ClassFile.Instr} {a b c : Nat} {v : Int32} {idx pos : Nat} {t1 : am_C} (hC : am_Cx D cA B b0 adK adV sc own cc nL p s m args c0) (hini : ini = true → meth.name = "<init>") (hp : ∀ q, cd[j]? = some q → q.2.1 = pc) (hj : ∃ q, cd[j]? = some q)
    (hck : am_ck own nL ini cc cd j i a b c v pc idx pos = true) (hcap : t1.2.2.2.1.length - L0 ≤ R.cells ∧ am_sl t1.2.2.2.1 - S0 ≤ R.slots) (hL : L0 ≤ sh.length ∧ S0 ≤ am_sl sh)
    (he : am_ex sc i a b c v j ls st sh h = some t1) (k : am_AW D cA B b0 adK p l e R s m args below meth c0 Q nL cd L0 S0 t1) : am_AW D cA B b0 adK p l e R s m args below meth c0 Q nL cd L0 S0 (j, ls, st, sh, h) := by
  obtain ⟨hx, hb, hml, hown, hts, htn, hK, hX, hbB, hBs, hV, hSR, -⟩ := id hC
  have hA : ∀ q : Nat, s.heap.size ≤ q → B ≤ q := fun q h => Nat.le_trans hBs h
  have hbA : ¬ B ≤ b0 := Nat.not_le.mpr hbB
  have hbs : b0 < s.heap.size := Nat.lt_of_lt_of_le hbB hBs
  cases i with
  | iconst n =>
    simp only [am_ck, Bool.and_eq_true, decide_eq_true_eq] at hck
    simp only [am_ex] at he
    obtain ⟨⟨hd, hv⟩, hnx⟩ := hck
    cases he
    refine am_s1 hp hj hnx ?_ k
    exact fun hl kk => lv_iconst hx hb hd hv (kk _ hl)
  | bipush n =>
    simp only [am_ck, Bool.and_eq_true, decide_eq_true_eq] at hck
    simp only [am_ex] at he
    obtain ⟨⟨hd, hv⟩, hnx⟩ := hck
    cases he
    refine am_s1 hp hj hnx ?_ k
    exact fun hl kk => lv_bipush hx hb hd hv (kk _ hl)
  | sipush n =>
    simp only [am_ck, Bool.and_eq_true, decide_eq_true_eq] at hck
    simp only [am_ex] at he
    obtain ⟨⟨hd, hv⟩, hnx⟩ := hck
    cases he
    refine am_s1 hp hj hnx ?_ k
    exact fun hl kk => lv_sipush hx hb hd hv (kk _ hl)
  | ldc n =>
    simp only [am_ck, Bool.and_eq_true, decide_eq_true_eq] at hck
    simp only [am_ex] at he
    obtain ⟨⟨hd, hv⟩, hnx⟩ := hck
    cases he
    by_cases hc : c = 1
    · rw [if_pos hc] at k
      rw [if_pos hc] at hv
      cases hq : am_sr[a]? with
      | none => rw [hq] at hv; cases hv
      | some q =>
        rw [hq] at hv
        simp only [Bool.and_eq_true, decide_eq_true_eq] at hv
        obtain ⟨e1, e2⟩ := hv
        have hr := hSR a q hq
        rw [e1, e2] at hr
        refine am_s1 hp hj hnx ?_ k
        exact fun hl kk => va_ldcS hx hb hown hr hd (kk _ hl)
    · rw [if_neg hc] at k
      rw [if_neg hc] at hv
      refine am_s1 hp hj hnx ?_ k
      exact fun hl kk => lv_ldc hx hb hown (hts _ (am_wl0_of (am_tb_mem (of_decide_eq_true hv)) rfl)) hd (kk _ hl)
  | ldc_w n =>
    simp only [am_ck, Bool.and_eq_true, decide_eq_true_eq] at hck
    simp only [am_ex] at he
    obtain ⟨⟨⟨hd, hc⟩, hv⟩, hnx⟩ := hck
    cases he
    rw [if_neg (by omega)] at k
    refine am_s1 hp hj hnx ?_ k
    exact fun hl kk => lv_ldcw hx hb hown (hts _ (am_wl0_of (am_tb_mem hv) rfl)) hd (kk _ hl)
  | ldc2_w n =>
    simp only [am_ck, Bool.and_eq_true, decide_eq_true_eq] at hck
    simp only [am_ex] at he
    obtain ⟨⟨hd, hv⟩, hnx⟩ := hck
    cases he
    refine am_s1 hp hj hnx ?_ k
    exact fun hl kk => lv_ldc2 hx hb hown (hts _ (am_wl0_of (am_tb_mem hv) rfl)) hd (kk _ hl)
  | lconst n =>
    simp only [am_ck, Bool.and_eq_true, decide_eq_true_eq] at hck
    simp only [am_ex] at he
    obtain ⟨⟨hd, hv⟩, hnx⟩ := hck
    cases he
    refine am_s1 hp hj hnx ?_ k
    exact fun hl kk => lv_lconst hx hb hd hv (kk _ hl)
  | iload_n n =>
    simp only [am_ck, Bool.and_eq_true, decide_eq_true_eq] at hck
    simp only [am_ex] at he
    obtain ⟨hd, hnx⟩ := hck
    split at he
    · rename_i x hk
      cases he
      refine am_s1 hp hj hnx ?_ k
      exact fun hl kk => lv_iload_n hx hb hd rfl (am_lv_get hl hk) (kk _ hl)
    · cases he
  | iload n =>
    simp only [am_ck, Bool.and_eq_true, decide_eq_true_eq] at hck
    simp only [am_ex] at he
    obtain ⟨hd, hnx⟩ := hck
    split at he
    · rename_i x hk
      cases he
      refine am_s1 hp hj hnx ?_ k
      exact fun hl kk => lv_iload hx hb hd (am_lv_get hl hk) (kk _ hl)
    · cases he
  | lload_n n =>
    simp only [am_ck, Bool.and_eq_true, decide_eq_true_eq] at hck
    simp only [am_ex] at he
    obtain ⟨hd, hnx⟩ := hck
    split at he
    · rename_i x hk
      cases he
      refine am_s1 hp hj hnx ?_ k
      exact fun hl kk => lv_lload_n hx hb hd rfl (am_lv_get hl hk) (kk _ hl)
    · cases he
  | aload_n n =>
    simp only [am_ck, Bool.and_eq_true, decide_eq_true_eq] at hck
    simp only [am_ex] at he
    obtain ⟨hd, hnx⟩ := hck
    split at he
    · rename_i x hk
      cases he
      refine am_s1 hp hj hnx ?_ k
      exact fun hl kk => lv_aload_n hx hb hd rfl (am_lv_get hl hk) (kk _ hl)
    · rename_i x hk
      cases he
      refine am_s1 hp hj hnx ?_ k
      exact fun hl kk => lv_aload_n hx hb hd rfl (am_lv_get hl hk) (kk _ hl)
    · cases he
  | aload n =>
    simp only [am_ck, Bool.and_eq_true, decide_eq_true_eq] at hck
    simp only [am_ex] at he
    obtain ⟨hd, hnx⟩ := hck
    split at he
    · rename_i x hk
      cases he
      refine am_s1 hp hj hnx ?_ k
      exact fun hl kk => lv_aload hx hb hd (am_lv_get hl hk) (kk _ hl)
    · rename_i x hk
      cases he
      refine am_s1 hp hj hnx ?_ k
      exact fun hl kk => lv_aload hx hb hd (am_lv_get hl hk) (kk _ hl)
    · cases he
  | istore_n n =>
    simp only [am_ck, Bool.and_eq_true, decide_eq_true_eq] at hck
    simp only [am_ex] at he
    obtain ⟨⟨hd, hn⟩, hnx⟩ := hck
    split at he
    · cases he
      refine am_s1 hp hj hnx ?_ k
      exact fun hl kk => lv_istore_n hx hb hd rfl hl hn rfl (fun lsB hB => kk lsB (am_lv_sto hB))
    · cases he
  | istore n =>
    simp only [am_ck, Bool.and_eq_true, decide_eq_true_eq] at hck
    simp only [am_ex] at he
    obtain ⟨⟨hd, hn⟩, hnx⟩ := hck
    split at he
    · cases he
      refine am_s1 hp hj hnx ?_ k
      exact fun hl kk => lv_istore hx hb hd hl hn rfl (fun lsB hB => kk lsB (am_lv_sto hB))
    · cases he
  | astore_n n =>
    simp only [am_ck, Bool.and_eq_true, decide_eq_true_eq] at hck
    simp only [am_ex] at he
    obtain ⟨⟨hd, hn⟩, hnx⟩ := hck
    split at he
    · cases he
      refine am_s1 hp hj hnx ?_ k
      exact fun hl kk => lv_astore_n hx hb hd rfl hl hn rfl (fun lsB hB => kk lsB (am_lv_sto hB))
    · cases he
  | astore n =>
    simp only [am_ck, Bool.and_eq_true, decide_eq_true_eq] at hck
    simp only [am_ex] at he
    obtain ⟨⟨hd, hn⟩, hnx⟩ := hck
    split at he
    · cases he
      refine am_s1 hp hj hnx ?_ k
      exact fun hl kk => lv_astore hx hb hd hl hn rfl (fun lsB hB => kk lsB (am_lv_sto hB))
    · cases he
  | lstore_n n =>
    simp only [am_ck, Bool.and_eq_true, decide_eq_true_eq] at hck
    simp only [am_ex] at he
    obtain ⟨⟨hd, hn⟩, hnx⟩ := hck
    split at he
    · cases he
      refine am_s1 hp hj hnx ?_ k
      exact fun hl kk => lv_lstore_n hx hb hd rfl hl hn rfl (fun lsB hB => kk lsB (am_lv_stl hB))
    · cases he
  | iinc n y =>
    simp only [am_ck, Bool.and_eq_true, decide_eq_true_eq] at hck
    simp only [am_ex] at he
    obtain ⟨⟨⟨hd, hv⟩, hn⟩, hnx⟩ := hck
    split at he
    · rename_i x hk
      cases he
      obtain ⟨q, hq⟩ := List.getElem?_of_mem (am_lk_mem hk)
      refine am_s1 hp hj hnx ?_ k
      exact fun hl kk => lv_iinc hx hb hd hl (k := q) (by unfold am_trl; rw [List.getElem?_map, hq]; rfl) (by rw [hv]) hn rfl (fun lsB hB => kk lsB (am_lv_sto (v := .int (x + v)) hB))
    · cases he
  | iadd =>
    simp only [am_ck, Bool.and_eq_true, decide_eq_true_eq] at hck
    simp only [am_ex] at he
    obtain ⟨hd, hnx⟩ := hck
    split at he
    · cases he
      refine am_s1 hp hj hnx ?_ k
      exact fun hl kk => lv_iadd hx hb hd (kk _ hl)
    · cases he
  | isub =>
    simp only [am_ck, Bool.and_eq_true, decide_eq_true_eq] at hck
    simp only [am_ex] at he
    obtain ⟨hd, hnx⟩ := hck
    split at he
    · cases he
      refine am_s1 hp hj hnx ?_ k
      exact fun hl kk => lv_isub hx hb hd (kk _ hl)
    · cases he
  | imul =>
    simp only [am_ck, Bool.and_eq_true, decide_eq_true_eq] at hck
    simp only [am_ex] at he
    obtain ⟨hd, hnx⟩ := hck
    split at he
    · cases he
      refine am_s1 hp hj hnx ?_ k
      exact fun hl kk => lv_imul hx hb hd (kk _ hl)
    · cases he
  | iand =>
    simp only [am_ck, Bool.and_eq_true, decide_eq_true_eq] at hck
    simp only [am_ex] at he
    obtain ⟨hd, hnx⟩ := hck
    split at he
    · cases he
      refine am_s1 hp hj hnx ?_ k
      exact fun hl kk => lv_iand hx hb hd (kk _ hl)
    · cases he
  | ior =>
    simp only [am_ck, Bool.and_eq_true, decide_eq_true_eq] at hck
    simp only [am_ex] at he
    obtain ⟨hd, hnx⟩ := hck
    split at he
    · cases he
      refine am_s1 hp hj hnx ?_ k
      exact fun hl kk => lv_ior hx hb hd (kk _ hl)
    · cases he
  | ixor =>
    simp only [am_ck, Bool.and_eq_true, decide_eq_true_eq] at hck
    simp only [am_ex] at he
    obtain ⟨hd, hnx⟩ := hck
    split at he
    · cases he
      refine am_s1 hp hj hnx ?_ k
      exact fun hl kk => lv_ixor hx hb hd (kk _ hl)
    · cases he
  | ladd =>
    simp only [am_ck, Bool.and_eq_true, decide_eq_true_eq] at hck
    simp only [am_ex] at he
    obtain ⟨hd, hnx⟩ := hck
    split at he
    · cases he
      refine am_s1 hp hj hnx ?_ k
      exact fun hl kk => lv_ladd hx hb hd (kk _ hl)
    · cases he
  | land =>
    simp only [am_ck, Bool.and_eq_true, decide_eq_true_eq] at hck
    simp only [am_ex] at he
    obtain ⟨hd, hnx⟩ := hck
    split at he
    · cases he
      refine am_s1 hp hj hnx ?_ k
      exact fun hl kk => lv_land hx hb hd (kk _ hl)
    · cases he
  | lor =>
    simp only [am_ck, Bool.and_eq_true, decide_eq_true_eq] at hck
    simp only [am_ex] at he
    obtain ⟨hd, hnx⟩ := hck
    split at he
    · cases he
      refine am_s1 hp hj hnx ?_ k
      exact fun hl kk => lv_lor hx hb hd (kk _ hl)
    · cases he
  | ishl =>
    simp only [am_ck, Bool.and_eq_true, decide_eq_true_eq] at hck
    simp only [am_ex] at he
    obtain ⟨hd, hnx⟩ := hck
    split at he
    · cases he
      refine am_s1 hp hj hnx ?_ k
      exact fun hl kk => lv_ishl hx hb hd (kk _ hl)
    · cases he
  | ishr =>
    simp only [am_ck, Bool.and_eq_true, decide_eq_true_eq] at hck
    simp only [am_ex] at he
    obtain ⟨hd, hnx⟩ := hck
    split at he
    · cases he
      refine am_s1 hp hj hnx ?_ k
      exact fun hl kk => lv_ishr hx hb hd (kk _ hl)
    · cases he
  | iushr =>
    simp only [am_ck, Bool.and_eq_true, decide_eq_true_eq] at hck
    simp only [am_ex] at he
    obtain ⟨hd, hnx⟩ := hck
    split at he
    · cases he
      refine am_s1 hp hj hnx ?_ k
      exact fun hl kk => lv_iushr hx hb hd rfl (kk _ hl)
    · cases he
  | i2l =>
    simp only [am_ck, Bool.and_eq_true, decide_eq_true_eq] at hck
    simp only [am_ex] at he
    obtain ⟨hd, hnx⟩ := hck
    split at he
    · cases he
      refine am_s1 hp hj hnx ?_ k
      exact fun hl kk => lv_i2l hx hb hd rfl (kk _ hl)
    · cases he
  | l2i =>
    simp only [am_ck, Bool.and_eq_true, decide_eq_true_eq] at hck
    simp only [am_ex] at he
    obtain ⟨hd, hnx⟩ := hck
    split at he
    · cases he
      refine am_s1 hp hj hnx ?_ k
      exact fun hl kk => lv_l2i hx hb hd rfl (kk _ hl)
    · cases he
  | lshl =>
    simp only [am_ck, Bool.and_eq_true, decide_eq_true_eq] at hck
    simp only [am_ex] at he
    obtain ⟨hd, hnx⟩ := hck
    split at he
    · cases he
      refine am_s1 hp hj hnx ?_ k
      exact fun hl kk => lv_lshl hx hb hd rfl (kk _ hl)
    · cases he
  | lshr =>
    simp only [am_ck, Bool.and_eq_true, decide_eq_true_eq] at hck
    simp only [am_ex] at he
    obtain ⟨hd, hnx⟩ := hck
    split at he
    · cases he
      refine am_s1 hp hj hnx ?_ k
      exact fun hl kk => lv_lshr hx hb hd rfl (kk _ hl)
    · cases he
  | ineg =>
    simp only [am_ck, Bool.and_eq_true, decide_eq_true_eq] at hck
    simp only [am_ex] at he
    obtain ⟨hd, hnx⟩ := hck
    split at he
    · cases he
      refine am_s1 hp hj hnx ?_ k
      exact fun hl kk => lv_ineg hx hb hd (kk _ hl)
    · cases he
  | idiv =>
    simp only [am_ck, Bool.and_eq_true, decide_eq_true_eq] at hck
    simp only [am_ex] at he
    obtain ⟨hd, hnx⟩ := hck
    split at he
    · rename_i y x st
      by_cases hy : y = 0
      · rw [if_pos hy] at he
        cases he
      · rw [if_neg hy] at he
        cases he
        refine am_s1 hp hj hnx ?_ k
        exact fun hl kk => lv_idiv hx hb hd hy (kk _ hl)
    · cases he
  | irem =>
    simp only [am_ck, Bool.and_eq_true, decide_eq_true_eq] at hck
    simp only [am_ex] at he
    obtain ⟨hd, hnx⟩ := hck
    split at he
    · rename_i y x st
      by_cases hy : y = 0
      · rw [if_pos hy] at he
        cases he
      · rw [if_neg hy] at he
        cases he
        refine am_s1 hp hj hnx ?_ k
        exact fun hl kk => lv_irem hx hb hd hy (kk _ hl)
    · cases he
  | lrem =>
    simp only [am_ck, Bool.and_eq_true, decide_eq_true_eq] at hck
    simp only [am_ex] at he
    obtain ⟨hd, hnx⟩ := hck
    split at he
    · rename_i y x st
      by_cases hy : y = 0
      · rw [if_pos hy] at he
        cases he
      · rw [if_neg hy] at he
        cases he
        refine am_s1 hp hj hnx ?_ k
        exact fun hl kk => lv_lrem hx hb hd hy (kk _ hl)
    · cases he
  | lcmp =>
    simp only [am_ck, Bool.and_eq_true, decide_eq_true_eq] at hck
    simp only [am_ex] at he
    obtain ⟨hd, hnx⟩ := hck
    split at he
    · cases he
      refine am_s1 hp hj hnx ?_ k
      exact fun hl kk => W.lcmp hx hb hd (by rw [← am_cpy_lcmp]; exact kk _ hl)
    · cases he
  | dup =>
    simp only [am_ck, Bool.and_eq_true, decide_eq_true_eq] at hck
    simp only [am_ex] at he
    obtain ⟨hd, hnx⟩ := hck
    split at he
    · cases he
      refine am_s1 hp hj hnx ?_ k
      exact fun hl kk => lv_dup hx hb hd rfl (kk _ hl)
    · cases he
      refine am_s1 hp hj hnx ?_ k
      exact fun hl kk => lv_dup hx hb hd rfl (kk _ hl)
    · cases he
  | dup2 =>
    simp only [am_ck, Bool.and_eq_true, decide_eq_true_eq] at hck
    simp only [am_ex] at he
    obtain ⟨hd, hnx⟩ := hck
    split at he
    · cases he
      refine am_s1 hp hj hnx ?_ k
      exact fun hl kk => lv_dup2_11 hx hb hd rfl rfl (kk _ hl)
    · cases he
  | pop =>
    simp only [am_ck, Bool.and_eq_true, decide_eq_true_eq] at hck
    simp only [am_ex] at he
    obtain ⟨hd, hnx⟩ := hck
    split at he
    · cases he
      refine am_s1 hp hj hnx ?_ k
      exact fun hl kk => lv_pop hx hb hd rfl (kk _ hl)
    · cases he
  | goto off =>
    simp only [am_ck, Bool.and_eq_true, decide_eq_true_eq] at hck
    simp only [am_ex] at he
    obtain ⟨hd, ht⟩ := hck
    cases he
    refine am_s2 hp hj ht ?_ k
    exact fun ho hl kk => lv_goto hx hb hd ho (kk hl)
  | ifCond kd off =>
    simp only [am_ck, Bool.and_eq_true, decide_eq_true_eq] at hck
    obtain ⟨⟨hd, ht⟩, hnx⟩ := hck
    cases kd with
    | eq =>
      simp only [am_ex] at he
      split at he
      · rename_i x st
        by_cases hc : x = 0
        · rw [if_pos hc] at he
          cases he
          refine am_s2 hp hj ht ?_ k
          exact fun ho hl kk => lv_if_eq hx hb hd ho (fun _ => kk hl) (fun z => absurd hc z)
        · rw [if_neg hc] at he
          cases he
          refine am_sb1 hp hj ht hnx ?_ k
          exact fun ho hl kk => lv_if_eq hx hb hd ho (fun z => absurd z hc) (fun _ => kk hl)
      · cases he
    | ne =>
      simp only [am_ex] at he
      split at he
      · rename_i x st
        by_cases hc : x = 0
        · rw [if_pos hc] at he
          cases he
          refine am_sb1 hp hj ht hnx ?_ k
          exact fun ho hl kk => lv_if_ne hx hb hd ho (fun z => absurd z (fun z => z hc)) (fun _ => kk hl)
        · rw [if_neg hc] at he
          cases he
          refine am_s2 hp hj ht ?_ k
          exact fun ho hl kk => lv_if_ne hx hb hd ho (fun _ => kk hl) (fun z => absurd z hc)
      · cases he
    | lt =>
      simp only [am_ex] at he
      split at he
      · rename_i x st
        by_cases hc : x < 0
        · rw [if_pos hc] at he
          cases he
          refine am_s2 hp hj ht ?_ k
          exact fun ho hl kk => lv_if_lt hx hb hd ho (fun _ => kk hl) (fun z => absurd hc z)
        · rw [if_neg hc] at he
          cases he
          refine am_sb1 hp hj ht hnx ?_ k
          exact fun ho hl kk => lv_if_lt hx hb hd ho (fun z => absurd z hc) (fun _ => kk hl)
      · cases he
    | ge =>
      simp only [am_ex] at he
      split at he
      · rename_i x st
        by_cases hc : x < 0
        · rw [if_pos hc] at he
          cases he
          refine am_sb1 hp hj ht hnx ?_ k
          exact fun ho hl kk => lv_if_ge hx hb hd ho (fun z => absurd z (fun z => am_nle z hc)) (fun _ => kk hl)
        · rw [if_neg hc] at he
          cases he
          refine am_s2 hp hj ht ?_ k
          exact fun ho hl kk => lv_if_ge hx hb hd ho (fun _ => kk hl) (fun z => absurd (am_nlt hc) z)
      · cases he
    | gt =>
      simp only [am_ex] at he
      split at he
      · rename_i x st
        by_cases hc : 0 < x
        · rw [if_pos hc] at he
          cases he
          refine am_s2 hp hj ht ?_ k
          exact fun ho hl kk => lv_if_gt hx hb hd ho (fun _ => kk hl) (fun z => absurd hc z)
        · rw [if_neg hc] at he
          cases he
          refine am_sb1 hp hj ht hnx ?_ k
          exact fun ho hl kk => lv_if_gt hx hb hd ho (fun z => absurd z hc) (fun _ => kk hl)
      · cases he
    | le =>
      simp only [am_ex] at he
      split at he
      · rename_i x st
        by_cases hc : 0 < x
        · rw [if_pos hc] at he
          cases he
          refine am_sb1 hp hj ht hnx ?_ k
          exact fun ho hl kk => lv_if_le hx hb hd ho (fun z => absurd z (fun z => am_nle z hc)) (fun _ => kk hl)
        · rw [if_neg hc] at he
          cases he
          refine am_s2 hp hj ht ?_ k
          exact fun ho hl kk => lv_if_le hx hb hd ho (fun _ => kk hl) (fun z => absurd (am_nlt hc) z)
      · cases he
  | if_icmp kd off =>
    simp only [am_ck, Bool.and_eq_true, decide_eq_true_eq] at hck
    obtain ⟨⟨hd, ht⟩, hnx⟩ := hck
    cases kd with
    | eq =>
      simp only [am_ex] at he
      split at he
      · rename_i y x st
        by_cases hc : x = y
        · rw [if_pos hc] at he
          cases he
          refine am_s2 hp hj ht ?_ k
          exact fun ho hl kk => lv_icmp_eq hx hb hd ho (fun _ => kk hl) (fun z => absurd hc z)
        · rw [if_neg hc] at he
          cases he
          refine am_sb1 hp hj ht hnx ?_ k
          exact fun ho hl kk => lv_icmp_eq hx hb hd ho (fun z => absurd z hc) (fun _ => kk hl)
      · cases he
    | ne =>
      simp only [am_ex] at he
      split at he
      · rename_i y x st
        by_cases hc : x = y
        · rw [if_pos hc] at he
          cases he
          refine am_sb1 hp hj ht hnx ?_ k
          exact fun ho hl kk => lv_icmp_ne hx hb hd ho (fun z => absurd z (fun z => z hc)) (fun _ => kk hl)
        · rw [if_neg hc] at he
          cases he
          refine am_s2 hp hj ht ?_ k
          exact fun ho hl kk => lv_icmp_ne hx hb hd ho (fun _ => kk hl) (fun z => absurd z hc)
      · cases he
    | lt =>
      simp only [am_ex] at he
      split at he
      · rename_i y x st
        by_cases hc : x < y
        · rw [if_pos hc] at he
          cases he
          refine am_s2 hp hj ht ?_ k
          exact fun ho hl kk => lv_icmp_lt hx hb hd ho (fun _ => kk hl) (fun z => absurd hc z)
        · rw [if_neg hc] at he
          cases he
          refine am_sb1 hp hj ht hnx ?_ k
          exact fun ho hl kk => lv_icmp_lt hx hb hd ho (fun z => absurd z hc) (fun _ => kk hl)
      · cases he
    | ge =>
      simp only [am_ex] at he
      split at he
      · rename_i y x st
        by_cases hc : x < y
        · rw [if_pos hc] at he
          cases he
          refine am_sb1 hp hj ht hnx ?_ k
          exact fun ho hl kk => lv_icmp_ge hx hb hd ho (fun z => absurd z (fun z => am_nle z hc)) (fun _ => kk hl)
        · rw [if_neg hc] at he
          cases he
          refine am_s2 hp hj ht ?_ k
          exact fun ho hl kk => lv_icmp_ge hx hb hd ho (fun _ => kk hl) (fun z => absurd (am_nlt hc) z)
      · cases he
    | gt =>
      simp only [am_ex] at he
      split at he
      · rename_i y x st
        by_cases hc : y < x
        · rw [if_pos hc] at he
          cases he
          refine am_s2 hp hj ht ?_ k
          exact fun ho hl kk => lv_icmp_gt hx hb hd ho (fun _ => kk hl) (fun z => absurd hc z)
        · rw [if_neg hc] at he
          cases he
          refine am_sb1 hp hj ht hnx ?_ k
          exact fun ho hl kk => lv_icmp_gt hx hb hd ho (fun z => absurd z hc) (fun _ => kk hl)
      · cases he
    | le =>
      simp only [am_ex] at he
      split at he
      · rename_i y x st
        by_cases hc : y < x
        · rw [if_pos hc] at he
          cases he
          refine am_sb1 hp hj ht hnx ?_ k
          exact fun ho hl kk => lv_icmp_le hx hb hd ho (fun z => absurd z (fun z => am_nle z hc)) (fun _ => kk hl)
        · rw [if_neg hc] at he
          cases he
          refine am_s2 hp hj ht ?_ k
          exact fun ho hl kk => lv_icmp_le hx hb hd ho (fun _ => kk hl) (fun z => absurd (am_nlt hc) z)
      · cases he
  | tableswitch dflt lo hi offs =>
    simp only [am_ck, Bool.and_eq_true, decide_eq_true_eq] at hck
    simp only [am_ex] at he
    obtain ⟨hd, hsw⟩ := hck
    obtain ⟨len, hd⟩ : ∃ len, decode cc pc = .ok (.tableswitch dflt lo hi offs, len) := by
      split at hd
      · rename_i x n hx
        exact ⟨n, by rw [hx, of_decide_eq_true hd]⟩
      · cases hd
    unfold am_swb at hsw
    simp only [Bool.and_eq_true, decide_eq_true_eq] at hsw
    obtain ⟨⟨⟨⟨⟨⟨s1, s2⟩, s3⟩, s4⟩, s5⟩, s6⟩, s7⟩ := hsw
    split at he
    · rename_i x st
      cases he
      by_cases hout : x.toInt < lo ∨ hi < x.toInt
      · have e1 : am_swt x (am_sw.getD a []) b = b := am_swt_tgt fun q hq hxq => by
          have g := List.all_eq_true.mp s7 q hq
          simp only [Bool.and_eq_true, decide_eq_true_eq] at g
          rw [hxq] at hout
          omega
        rw [e1] at k
        refine am_s2 hp hj s1 ?_ k
        exact fun ho hl kk => lv_tableOut hx hb hd hout ho (kk hl)
      · obtain ⟨n, hn⟩ : ∃ n : Nat, (n : Int) = x.toInt - lo := ⟨(x.toInt - lo).toNat, by omega⟩
        have hns : n < offs.size := by omega
        have g := List.all_eq_true.mp s6 n (List.mem_range.mpr hns)
        have ex : Int32.ofInt (lo + n) = x := by rw [hn, show lo + (x.toInt - lo) = x.toInt by omega]; exact Int32.ofInt_toInt x
        cases ho : offs[n]? with
        | none => rw [ho] at g; cases g
        | some off =>
          rw [ho, ex] at g
          refine am_s2 hp hj g ?_ k
          exact fun hto hl kk => lv_tableIn hx hb hd (by omega) (by omega) (by rw [show (x.toInt - lo).toNat = n by omega]; exact ho) hto (kk hl)
    · cases he
  | getfield n =>
    simp only [am_ck, Bool.and_eq_true, decide_eq_true_eq] at hck
    simp only [am_ex] at he
    obtain ⟨⟨hd, hf⟩, hnx⟩ := hck
    obtain ⟨C, T, N, hcl, hbN, hTC, hlk, -⟩ := am_fd_of hf
    obtain ⟨-, -, hin, -, -⟩ := am_cl_ok hcl
    split at he
    · rename_i kk0 st
      split at he
      · rename_i o ho
        by_cases hoa : o.1 = a
        · rw [if_pos hoa] at he
          subst hoa
          have row : ∀ (r : Option Nat), o.2[b]? = some r → am_AW D cA B b0 adK p l e R s m args below meth c0 Q nL cd L0 S0 (j + 1, ls, am_gv (am_rd h kk0 b) r :: st, sh, h) → am_AW D cA B b0 adK p l e R s m args below meth c0 Q nL cd L0 S0 (j, ls, .ref kk0 :: st, sh, h) := by
            intro r hr k
            refine am_s3 hp hj hnx ?_ k
            intro H locs lsA hsz hW hS kk
            refine va_get (T := T) (N := N) hx hb hts hin hown hK hW.1 kk0 (am_ws_get ho) hcl b hbN (hts _ hlk) (fun _ z => by rw [hTC] at z; exact z) (v := am_fv B b0 (am_rw h kk0) b r) ?_ hd ?_
            · rw [List.getElem?_mapIdx, hr]
              rfl
            · rw [am_gv_tr]
              exact kk H locs hW hS
          split at he
          · rename_i hr
            cases he
            exact row none hr k
          · rename_i hr
            cases he
            exact row (some 0) hr k
          · rename_i x hr
            cases he
            exact row (some (x + 1)) hr k
          · cases he
        · rw [if_neg hoa] at he
          cases he
      · cases he
    · cases he
  | putfield n =>
    simp only [am_ck, Bool.and_eq_true, decide_eq_true_eq] at hck
    simp only [am_ex] at he
    obtain ⟨⟨hd, hf⟩, hnx⟩ := hck
    obtain ⟨C, T, N, hcl, hbN, hTC, hlk, hput⟩ := am_fd_of hf
    obtain ⟨hp1, hp2⟩ := hput rfl
    obtain ⟨⟨ty0, hty⟩, hnm, hin, -, -⟩ := am_cl_ok hcl
    split at he
    · rename_i x kk0 st
      split at he
      · rename_i o ho
        by_cases hoa : o.1 = a
        · rw [if_pos hoa] at he
          subst hoa
          split at he
          · rename_i hr
            by_cases hc : c = 0 ∨ (c = 2 ∧ (x = 0 ∨ x = 1))
            · rw [if_pos hc] at he
              cases he
              obtain ⟨hfin, hI, hZ⟩ := hp2 (by omega)
              have hlt : b < (o.2.mapIdx fun j r => am_fv B b0 (am_rw h kk0) j r).length := by rw [List.length_mapIdx]; exact (List.getElem?_eq_some_iff.mp hr).1
              have hen : (am_ad B b0 kk0, am_en B b0 cA (upd (am_rw h kk0) b x) (.inl o)) = (am_ad B b0 kk0, (.inr (o.1, (o.2.mapIdx fun j r => am_fv B b0 (am_rw h kk0) j r).set b (.int x)) : va_E)) := by
                show (_, (Sum.inr (o.1, o.2.mapIdx fun j r => am_fv B b0 (upd (am_rw h kk0) b x) j r) : va_E)) = _
                rw [am_mapIdx_set hr]
              refine am_s3 hp hj hnx ?_ k
              intro H locs lsA hsz hW hS kk
              have fin : ∀ ty : FieldType, parseFieldDescriptor (T b).2.2.1 = some ty → narrow ty (.int x) = .int x → fits ty (.int x) = true → W p l e R s m args below meth c0 H locs (sh.length - L0) (am_sl sh - S0) Q (F0 m pc lsA (List.map (am_tr B b0 adK) (.int x :: .ref kk0 :: st))) := by
                intro ty hpt hna hfi
                refine am_r_put (T := T) (N := N) hx hb hts hin ty0 hty hnm hown hK hW.1 (am_ws_D hW.2.2.1) hS kk0 (am_ws_get ho) hcl b hbN hTC (hts _ hlk) (Or.inl hfin) hpt hna hfi hlt hd ?_
                intro H1 locs1 hP1 hz1 hS1
                refine kk H1 locs1 ?_ hS1
                rw [am_wr_wrow]
                exact hW.row ho (by rw [hen]; exact hP1) hz1
              rcases hc with hc | ⟨hc, hx01⟩
              · exact fin .int (hI hc) rfl rfl
              · refine fin .boolean (hZ hc) ?_ ?_
                · rcases hx01 with rfl | rfl <;> rfl
                · rcases hx01 with rfl | rfl <;> rfl
            · rw [if_neg hc] at he
              cases he
          · cases he
        · rw [if_neg hoa] at he
          cases he
      · cases he
    · rename_i x kk0 st
      split at he
      · rename_i o ho
        by_cases hoa : o.1 = a ∧ c = 1
        · rw [if_pos hoa] at he
          obtain ⟨hoa, hc⟩ := hoa
          subst hoa
          split at he
          · rename_i z hr
            cases he
            obtain ⟨hfin, hi2, hdecl, hty1⟩ := hp1 hc
            have hl2 := (List.getElem?_eq_some_iff.mp hr).1
            have hlt : b < (o.2.mapIdx fun j r => am_fv B b0 (am_rw h kk0) j r).length := by rw [List.length_mapIdx]; exact hl2
            have hen : (am_ad B b0 kk0, am_en B b0 cA (am_rw h kk0) (.inl (o.1, o.2.set b (some (x + 1))))) = (am_ad B b0 kk0, (.inr (o.1, (o.2.mapIdx fun j r => am_fv B b0 (am_rw h kk0) j r).set b (.ref (am_ad B b0 x))) : va_E)) := by
              show (_, (Sum.inr (o.1, (o.2.set b (some (x + 1))).mapIdx fun j r => am_fv B b0 (am_rw h kk0) j r) : va_E)) = _
              rw [am_mapIdx_ref hl2]
            refine am_s3 hp hj hnx ?_ k
            intro H locs lsA hsz hW hS kk
            have fin : ∀ ty : FieldType, parseFieldDescriptor (T b).2.2.1 = some ty → narrow ty (.ref (am_ad B b0 x)) = .ref (am_ad B b0 x) → fits ty (.ref (am_ad B b0 x)) = true → W p l e R s m args below meth c0 H locs (sh.length - L0) (am_sl sh - S0) Q (F0 m pc lsA (List.map (am_tr B b0 adK) (.ref x :: .ref kk0 :: st))) := by
              intro ty hpt hna hfi
              refine am_r_put (T := T) (N := N) hx hb hts hin ty0 hty hnm hown hK hW.1 (am_ws_D hW.2.2.1) hS kk0 (am_ws_get ho) hcl b hbN hTC (hts _ hlk) (Or.inr ⟨hfin, hini hi2, hdecl⟩) hpt hna hfi hlt hd ?_
              intro H1 locs1 hP1 hz1 hS1
              have e1 : (sh.set kk0 (Sum.inl (o.1, o.2.set b (some (x + 1))))).length = sh.length := List.length_set
              have e2 : am_sl (sh.set kk0 (Sum.inl (o.1, o.2.set b (some (x + 1))))) = am_sl sh := am_sl_set ho (by show (o.2.set b _).length = o.2.length; exact List.length_set)
              have g := kk H1 locs1 ⟨?_, by rw [hz1, e1]; exact hW.2.1, by rw [e1]; exact hW.2.2.1, fun i hi => hW.2.2.2 i (by rw [e1] at hi; exact hi)⟩ hS1
              · rw [e1, e2] at g
                exact g
              · rw [← am_ws_fld _ (List.getElem?_eq_some_iff.mp ho).1, hen]
                exact hP1
            rcases hty1 with ⟨y, hy⟩ | ⟨y, hy⟩
            · exact fin _ hy rfl rfl
            · exact fin _ hy rfl rfl
          · cases he
        · rw [if_neg hoa] at he
          cases he
      · cases he
    · cases he
  | iaload =>
    simp only [am_ck, Bool.and_eq_true, decide_eq_true_eq] at hck
    simp only [am_ex] at he
    obtain ⟨hd, hnx⟩ := hck
    split at he
    · rename_i x kk0 st
      split at he
      · rename_i n hn
        by_cases hi : am_in x n = true
        · rw [if_pos hi] at he
          cases he
          refine am_s3 hp hj hnx ?_ k
          intro H locs lsA hsz hW hS kk
          refine va_iald hx hb hK hW.1 kk0 0 (am_ws_get hn) rfl (am_in_vp hi) hd ?_
          rw [← am_rd_rw]
          exact kk H locs hW hS
        · rw [if_neg hi] at he
          cases he
      · by_cases hi : kk0 = am_SC ∧ am_in x sc.1 = true
        · rw [if_pos hi] at he
          cases he
          obtain ⟨rfl, hi⟩ := hi
          refine am_s3 hp hj hnx ?_ k
          intro H locs lsA hsz hW hS kk
          exact va_sld hx hb hX hbs hbA hS (am_in_vp hi) hd (kk H locs hW hS)
        · rw [if_neg hi] at he
          cases he
      · cases he
    · cases he
  | iastore =>
    simp only [am_ck, Bool.and_eq_true, decide_eq_true_eq] at hck
    simp only [am_ex] at he
    obtain ⟨hd, hnx⟩ := hck
    split at he
    · rename_i y x kk0 st
      split at he
      · rename_i n hn
        by_cases hi : am_in x n = true
        · rw [if_pos hi] at he
          cases he
          refine am_s3 hp hj hnx ?_ k
          intro H locs lsA hsz hW hS kk
          refine am_r_iast hx hb hK hW.1 (am_ws_D hW.2.2.1) hS kk0 0 (am_ws_get hn) rfl (am_in_vp hi) hd ?_
          intro H1 locs1 hP1 hz1 hS1
          refine kk H1 locs1 ?_ hS1
          rw [am_wr_wrow]
          exact hW.row hn hP1 hz1
        · rw [if_neg hi] at he
          cases he
      · cases he
    · cases he
  | laload =>
    simp only [am_ck, Bool.and_eq_true, decide_eq_true_eq] at hck
    simp only [am_ex] at he
    obtain ⟨hd, hnx⟩ := hck
    split at he
    · rename_i x kk0 st
      split at he
      · rename_i n hn
        by_cases hi : am_in x n = true
        · rw [if_pos hi] at he
          cases he
          refine am_s3 hp hj hnx ?_ k
          intro H locs lsA hsz hW hS kk
          refine va_lald hx hb hK hW.1 kk0 1 (am_ws_get hn) rfl (am_in_vp hi) hd ?_
          have g := kk H locs hW hS
          rw [am_rd_rw] at g
          exact g
        · rw [if_neg hi] at he
          cases he
      · cases he
    · cases he
  | lastore =>
    simp only [am_ck, Bool.and_eq_true, decide_eq_true_eq] at hck
    simp only [am_ex] at he
    obtain ⟨hd, hnx⟩ := hck
    split at he
    · rename_i y x kk0 st
      split at he
      · rename_i n hn
        by_cases hi : am_in x n = true ∧ y.toInt32.toInt64 = y
        · rw [if_pos hi] at he
          cases he
          refine am_s3 hp hj hnx ?_ k
          intro H locs lsA hsz hW hS kk
          refine am_r_last hx hb hK hW.1 (am_ws_D hW.2.2.1) hS kk0 1 (am_ws_get hn) rfl (am_in_vp hi.1) hd ?_
          intro H1 locs1 hP1 hz1 hS1
          refine kk H1 locs1 ?_ hS1
          rw [am_wr_wrow]
          refine hW.row hn ?_ hz1
          have e1 : am_en B b0 cA (upd (am_rw h kk0) x.toNatClampNeg y.toInt32) (.inr (1, n)) = .inl (cA 1, n, .inr (.inl (vp_updL (fun j => (am_rw h kk0 j).toInt64) x.toNatClampNeg y))) := by
            show (Sum.inl (cA 1, n, Sum.inr (Sum.inl fun j => (upd (am_rw h kk0) x.toNatClampNeg y.toInt32 j).toInt64)) : va_E) = _
            have hfun : (fun j => (upd (am_rw h kk0) x.toNatClampNeg y.toInt32 j).toInt64) = vp_updL (fun j => (am_rw h kk0 j).toInt64) x.toNatClampNeg y := by
              funext q
              by_cases hq : q = x.toNatClampNeg
              · simp [upd, vp_updL, hq, hi.2]
              · simp [upd, vp_updL, hq]
            rw [hfun]
          rw [e1]
          exact hP1
        · rw [if_neg hi] at he
          cases he
      · cases he
    · cases he
  | aaload =>
    simp only [am_ck, Bool.and_eq_true, decide_eq_true_eq] at hck
    simp only [am_ex] at he
    obtain ⟨hd, hnx⟩ := hck
    split at he
    · rename_i x kk0 st
      split at he
      · rename_i n hn
        by_cases hi : am_in x n = true
        · rw [if_pos hi] at he
          cases he
          refine am_s3 hp hj hnx ?_ k
          intro H locs lsA hsz hW hS kk
          refine va_aldq hx hb hK hW.1 kk0 2 (am_ws_get hn) rfl (am_in_vp hi) hd ?_
          have g := kk H locs hW hS
          have e1 : am_tr B b0 adK (am_rv (am_rd h kk0 x.toNatClampNeg)) = va_rf (am_or B b0 (am_rw h kk0 x.toNatClampNeg)) := by
            rw [am_rd_rw]
            unfold am_rv am_or
            by_cases hz : am_rw h kk0 x.toNatClampNeg = 0
            · rw [if_pos hz, if_pos hz]
              rfl
            · rw [if_neg hz, if_neg hz]
              rfl
          have g : W p l e R s m args below meth c0 H locs (sh.length - L0) (am_sl sh - S0) Q (F0 m (pc + 1) lsA (am_tr B b0 adK (am_rv (am_rd h kk0 x.toNatClampNeg)) :: st.map (am_tr B b0 adK))) := g
          rw [e1] at g
          exact g
        · rw [if_neg hi] at he
          cases he
      · cases he
    · cases he
  | aastore =>
    simp only [am_ck, Bool.and_eq_true, decide_eq_true_eq] at hck
    simp only [am_ex] at he
    obtain ⟨hd, hnx⟩ := hck
    split at he
    · rename_i y x kk0 st
      split at he
      · rename_i n hn
        split at he
        · rename_i o ho
          by_cases hi : am_in x n = true ∧ o.1 = 2
          · rw [if_pos hi] at he
            cases he
            refine am_s3 hp hj hnx ?_ k
            intro H locs lsA hsz hW hS kk
            have ho2 : (am_ws B b0 cA sh h)[y]? = some (am_ad B b0 y, .inr (2, o.2.mapIdx fun j r => am_fv B b0 (am_rw h y) j r)) := by
              rw [am_ws_get ho, ← hi.2]
              rfl
            refine am_r_astq (r := (RX2, TX2, 15)) hx hb hK hW.1 (am_ws_D hW.2.2.1) hS kk0 2 y 2 (am_ws_get hn) rfl ho2 rfl (am_in_vp hi.1) hd ?_
            intro H1 locs1 hP1 hz1 hS1
            refine kk H1 locs1 ?_ hS1
            rw [am_wr_wrow]
            refine hW.row hn ?_ hz1
            have hy2 : ∀ z : Nat, z < 1000 → 0 < z + 1 ∧ z + 1 < 2 ^ 31 := fun z hz => by omega
            obtain ⟨hy0, hy1⟩ := hy2 y (Nat.lt_of_lt_of_le (List.getElem?_eq_some_iff.mp ho).1 hW.2.2.1)
            have e1 : am_en B b0 cA (upd (am_rw h kk0) x.toNatClampNeg (nI (y + 1))) (.inr (2, n)) = .inl (cA 2, n, .inr (.inr (.inr (.inr (va_up (fun j => am_or B b0 (am_rw h kk0 j)) x.toNatClampNeg (some (am_ad B b0 y))))))) := by
              show (Sum.inl (cA 2, n, Sum.inr (Sum.inr (Sum.inr (Sum.inr fun j => am_or B b0 (upd (am_rw h kk0) x.toNatClampNeg (nI (y + 1)) j))))) : va_E) = _
              have hfun : (fun j => am_or B b0 (upd (am_rw h kk0) x.toNatClampNeg (nI (y + 1)) j)) = va_up (fun j => am_or B b0 (am_rw h kk0 j)) x.toNatClampNeg (some (am_ad B b0 y)) := by
               funext q
               by_cases hq : q = x.toNatClampNeg
               · have e2 : am_or B b0 (nI (y + 1)) = some (am_ad B b0 y) := by
                  unfold am_or
                  rw [if_neg (nI_ne0 (n := y + 1) hy0 hy1), nI_clamp (n := y + 1) hy1]
                  rfl
                 simp [upd, va_up, hq, e2]
               · simp [upd, va_up, hq]
              rw [hfun]
            rw [e1]
            exact hP1
          · rw [if_neg hi] at he
            cases he
        · cases he
      · cases he
    · cases he
  | arraylength =>
    simp only [am_ck, Bool.and_eq_true, decide_eq_true_eq] at hck
    simp only [am_ex] at he
    obtain ⟨hd, hnx⟩ := hck
    split at he
    · rename_i kk0 st
      split at he
      · rename_i o ho
        cases he
        refine am_s3 hp hj hnx ?_ k
        intro H locs lsA hsz hW hS kk
        have g := kk H locs hW hS
        have hg := am_ws_get (B := B) (b := b0) (cA := cA) (h := h) ho
        obtain ⟨ok, on⟩ := o
        match ok, hg with
        | 0, hg => exact va_alen hx hb hK hW.1 kk0 0 hg rfl rfl hd g
        | 1, hg => exact va_alen hx hb hK hW.1 kk0 1 hg rfl rfl hd g
        | _ + 2, hg => exact va_alen hx hb hK hW.1 kk0 2 hg rfl rfl hd g
      · by_cases hi : kk0 = am_SC
        · rw [if_pos hi] at he
          cases he
          subst hi
          refine am_s3 hp hj hnx ?_ k
          intro H locs lsA hsz hW hS kk
          exact va_slen hx hb hX hbs hbA hS hd (kk H locs hW hS)
        · rw [if_neg hi] at he
          cases he
      · cases he
    · cases he
  | newarray ty =>
    simp only [am_ck, Bool.and_eq_true, decide_eq_true_eq] at hck
    simp only [am_ex] at he
    obtain ⟨⟨hd, hty⟩, hnx⟩ := hck
    split at he
    · rename_i x st
      by_cases hc : ¬ x < 0 ∧ x.toNatClampNeg ≤ 10000 ∧ sh.length < 1000
      · rw [if_pos hc] at he
        cases he
        obtain ⟨hx0, hx1, hx2⟩ := hc
        have e1 : (sh ++ [(Sum.inr (a, x.toNatClampNeg) : am_Sh)]).length = sh.length + 1 := by simp
        have e2 : am_sl (sh ++ [(Sum.inr (a, x.toNatClampNeg) : am_Sh)]) = am_sl sh + x.toNatClampNeg := am_sl_app
        simp only [e1, e2] at hcap
        refine am_s3 hp hj hnx ?_ k
        intro H locs lsA hsz hW hS kk
        have had : am_ad B b0 sh.length = H.size := by rw [am_ad_lt hx2]; exact hW.2.1.symm
        have fin : ∀ H1 : Heap, va_P D vwCl [(am_ad B b0 sh.length, am_en B b0 cA (am_rw h sh.length) (.inr (a, x.toNatClampNeg)))] H1 → H1.size = H.size + 1 → (∀ q, q < H.size → H1[q]? = H[q]?) → W p l e R s m args below meth c0 H1 locs (sh.length - L0 + 1) (am_sl sh - S0 + x.toNatClampNeg) Q (F0 m (pc + 2) lsA (.ref H.size :: st.map (am_tr B b0 adK))) := by
          intro H1 hP1 hz1 ho1
          have g := kk H1 locs ⟨by rw [← am_ws_new]; exact (hW.1.kept fun q y hy => ho1 y.1 (hW.1 q y hy).lt).app hP1, by rw [hz1, hW.2.1, e1]; omega, by rw [e1]; omega, fun i hi => hW.2.2.2 i (by rw [e1] at hi; omega)⟩ ⟨Nat.le_trans hS.1 (by omega), fun q h1 h2 => (ho1 q (Nat.lt_of_lt_of_le h1 hS.1)).trans (hS.2.1 q h1 h2), hS.2.2⟩
          rw [e1, e2, show sh.length + 1 - L0 = sh.length - L0 + 1 by omega, show am_sl sh + x.toNatClampNeg - S0 = am_sl sh - S0 + x.toNatClampNeg by omega] at g
          have g : W p l e R s m args below meth c0 H1 locs (sh.length - L0 + 1) (am_sl sh - S0 + x.toNatClampNeg) Q (F0 m (pc + 2) lsA (.ref (am_ad B b0 sh.length) :: st.map (am_tr B b0 adK))) := g
          rw [had] at g
          exact g
        by_cases ha : a = 0
        · rw [if_pos ha] at hty
          have hty := of_decide_eq_true hty
          subst ha
          subst hty
          refine va_newaK (atype := .int) hx hb (hts _ (am_wl0_of am_ac_int rfl)) rfl hd (n := x) (N := x.toNatClampNeg) (rest := st.map (am_tr B b0 adK)) rfl hx0 rfl (am_bytes hx1 (by decide)) (by omega) (by omega) rfl ?_
          intro H1 cA1 g1 g2 g3 g4 g5
          have hcA : cA1 = cA 0 := Option.some.inj (g5.symm.trans (hK.2 0 _ rfl).2)
          subst hcA
          refine fin H1 (am_P1 ?_) g2 g3
          show H1[am_ad B b0 sh.length]? = some (vp_cell (cA 0) (x.toNatClampNeg, .inl (am_rw h sh.length)))
          rw [had, g1, hW.2.2.2 _ (Nat.le_refl _), vp_cell_i]
          rfl
        · rw [if_neg ha] at hty
          simp only [Bool.and_eq_true, decide_eq_true_eq] at hty
          obtain ⟨rfl, rfl⟩ := hty
          refine va_newaK (atype := .long) hx hb (hts _ (am_wl0_of am_ac_long rfl)) rfl hd (n := x) (N := x.toNatClampNeg) (rest := st.map (am_tr B b0 adK)) rfl hx0 rfl (am_bytes hx1 (by decide)) (by omega) (by omega) rfl ?_
          intro H1 cA1 g1 g2 g3 g4 g5
          have hcA : cA1 = cA 1 := Option.some.inj (g5.symm.trans (hK.2 1 _ rfl).2)
          subst hcA
          refine fin H1 (am_P1 ?_) g2 g3
          show H1[am_ad B b0 sh.length]? = some (vp_cell (cA 1) (x.toNatClampNeg, .inr (.inl fun j => (am_rw h sh.length j).toInt64)))
          rw [had, g1, hW.2.2.2 _ (Nat.le_refl _), vp_cell_l]
          rfl
      · rw [if_neg hc] at he
        cases he
    · cases he
  | anewarray n =>
    simp only [am_ck, Bool.and_eq_true, decide_eq_true_eq] at hck
    simp only [am_ex] at he
    obtain ⟨⟨⟨hd, hty⟩, hlk⟩, hnx⟩ := hck
    split at he
    · rename_i x st
      by_cases hc : ¬ x < 0 ∧ x.toNatClampNeg ≤ 10000 ∧ sh.length < 1000
      · rw [if_pos hc] at he
        cases he
        obtain ⟨hx0, hx1, hx2⟩ := hc
        have e1 : (sh ++ [(Sum.inr (2, x.toNatClampNeg) : am_Sh)]).length = sh.length + 1 := by simp
        have e2 : am_sl (sh ++ [(Sum.inr (2, x.toNatClampNeg) : am_Sh)]) = am_sl sh + x.toNatClampNeg := am_sl_app
        simp only [e1, e2] at hcap
        refine am_s3 hp hj hnx ?_ k
        intro H locs lsA hsz hW hS kk
        have had : am_ad B b0 sh.length = H.size := by rw [am_ad_lt hx2]; exact hW.2.1.symm
        refine W.anew hx hb hown (hts _ (am_wl0_of (am_tb_mem hlk) rfl)) (va_AO.use (htn _ am_ao_court rfl)) rfl hd rfl hx0 (by omega) (by omega) (by omega) fun cA1 kA comp f1 f2 f3 f4 => ?_
        generalize hH1 : H.push ({ cls := cA1, slots := Array.replicate x.toNatClampNeg .null, vm := .none } : Cell) = H1
        have z1 : H1.size = H.size + 1 := by rw [← hH1, Array.size_push]
        have g1 : H1[H.size]? = some (arrV cA1 x.toNatClampNeg (fun _ => .null)) := by rw [← hH1, Array.getElem?_push_size, ← arrV_new]
        have o1 : ∀ q : Nat, q < H.size → H1[q]? = H[q]? := fun q hq => by rw [← hH1, Array.getElem?_push, if_neg (Nat.ne_of_lt hq)]
        have hcA : cA1 = cA 2 := by
          obtain ⟨kB, cmp, y1, y2, y3, y4⟩ := (hK.2 2 _ rfl).2
          exact Option.some.inj (f1.symm.trans y4)
        subst hcA
        have hP1 : va_P D vwCl [(am_ad B b0 sh.length, am_en B b0 cA (am_rw h sh.length) (.inr (2, x.toNatClampNeg)))] H1 := by
          refine am_P1 ?_
          show H1[am_ad B b0 sh.length]? = some (vp_cell (cA 2) (x.toNatClampNeg, .inr (.inr (.inr (.inr fun j => am_or B b0 (am_rw h sh.length j))))))
          rw [had, g1, hW.2.2.2 _ (Nat.le_refl _), vp_cell_q]
          rfl
        have g := kk H1 locs ⟨by rw [← am_ws_new]; exact (hW.1.kept fun q y hy => o1 y.1 (hW.1 q y hy).lt).app hP1, by rw [z1, hW.2.1, e1]; omega, by rw [e1]; omega, fun i hi => hW.2.2.2 i (by rw [e1] at hi; omega)⟩ ⟨Nat.le_trans hS.1 (by omega), fun q h1 h2 => (o1 q (Nat.lt_of_lt_of_le h1 hS.1)).trans (hS.2.1 q h1 h2), hS.2.2⟩
        rw [e1, e2, show sh.length + 1 - L0 = sh.length - L0 + 1 by omega, show am_sl sh + x.toNatClampNeg - S0 = am_sl sh - S0 + x.toNatClampNeg by omega] at g
        have g : W p l e R s m args below meth c0 H1 locs (sh.length - L0 + 1) (am_sl sh - S0 + x.toNatClampNeg) Q (F0 m (pc + 3) lsA (.ref (am_ad B b0 sh.length) :: st.map (am_tr B b0 adK))) := g
        rw [had] at g
        exact g
      · rw [if_neg hc] at he
        cases he
    · cases he
  | new n =>
    simp only [am_ck, Bool.and_eq_true, decide_eq_true_eq] at hck
    simp only [am_ex] at he
    obtain ⟨⟨hd, hq⟩, hnx⟩ := hck
    by_cases hc : sh.length < 1000
    · rw [if_pos hc] at he
      cases he
      cases hcl : vwCl[a]? with
      | none => rw [hcl] at hq; cases hq
      | some q =>
        obtain ⟨C, T, N⟩ := q
        rw [hcl] at hq
        simp only [Bool.and_eq_true, decide_eq_true_eq] at hq
        obtain ⟨hN, hlk⟩ := hq
        obtain ⟨⟨ty0, hty⟩, hnm, hin, hinst, hinit⟩ := am_cl_ok hcl
        have hft := am_ft_ok hcl
        have e1 : (sh ++ [(Sum.inl (a, am_ft.getD a []) : am_Sh)]).length = sh.length + 1 := by simp
        have e2 : am_sl (sh ++ [(Sum.inl (a, am_ft.getD a []) : am_Sh)]) = am_sl sh + N := by
          rw [am_sl_app]
          congr 1
          exact hft.1
        simp only [e1, e2] at hcap
        refine am_s3 hp hj hnx ?_ k
        intro H locs lsA hsz hW hS kk
        have had : am_ad B b0 sh.length = H.size := by rw [am_ad_lt hc]; exact hW.2.1.symm
        have hKn := hK.1 a _ hcl
        refine W.newcK hx hb hown (hts _ (am_wl0_of (am_tb_mem hlk) rfl)) (hts _ hinst) (hts _ hinit) rfl hd (by omega) (show am_sl sh - S0 + N ≤ R.slots by omega) hKn.2.1 rfl fun H1 kC hkC g1 z1 o1 => ?_
        have hP1 : va_P D vwCl [(am_ad B b0 sh.length, am_en B b0 cA (am_rw h sh.length) (.inl (a, am_ft.getD a [])))] H1 := by
          refine am_P1 ⟨_, hcl, ?_⟩
          rw [had]
          refine (u_born ty0 hts hin hKn hkC g1 hty).to ?_
          intro j hj
          obtain ⟨f1, f2⟩ := hft.2 j hj
          simp only [vp_V, List.getD_eq_getElem?_getD, List.getElem?_mapIdx, hW.2.2.2 _ (Nat.le_refl sh.length)]
          dsimp only at hty hj
          have hpj : parseFieldDescriptor (T j).2.2.1 = some (ty0 j) := hty j hj
          rcases f2 with ⟨f3, f4⟩ | ⟨f3, f4⟩
          · rw [List.getD_eq_getElem?_getD] at f3
            rw [f3]
            rcases f4 with f4 | f4 <;> (rw [f4] at hpj; rw [← Option.some.inj hpj]; rfl)
          · rw [List.getD_eq_getElem?_getD] at f3
            rw [f3]
            rcases f4 with ⟨y, f4⟩ | ⟨y, f4⟩ <;> (rw [f4] at hpj; rw [← Option.some.inj hpj]; rfl)
        have g := kk H1 locs ⟨by rw [← am_ws_new]; exact (hW.1.kept fun q y hy => o1 y.1 (hW.1 q y hy).lt).app hP1, by rw [z1, hW.2.1, e1]; omega, by rw [e1]; omega, fun i hi => hW.2.2.2 i (by rw [e1] at hi; omega)⟩ ⟨Nat.le_trans hS.1 (by omega), fun q h1 h2 => (o1 q (Nat.lt_of_lt_of_le h1 hS.1)).trans (hS.2.1 q h1 h2), hS.2.2⟩
        rw [e1, e2, show sh.length + 1 - L0 = sh.length - L0 + 1 by omega, show am_sl sh + N - S0 = am_sl sh - S0 + N by omega] at g
        have g : W p l e R s m args below meth c0 H1 locs (sh.length - L0 + 1) (am_sl sh - S0 + N) Q (F0 m (pc + 3) lsA (.ref (am_ad B b0 sh.length) :: st.map (am_tr B b0 adK))) := g
        rw [had] at g
        exact g
    · rw [if_neg hc] at he
      cases he
  | _ => cases he
end ST
