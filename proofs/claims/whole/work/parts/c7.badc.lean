def col (im : Nat → Nat) (x i : Nat) : Nat → Nat := fun q => im (25 * x + 5 * q + i)
theorem stp_col (bo im : Nat → Nat) (x s q i : Nat) : stp bo im x s q i = ac bo s (col im x i) q := rfl
/-- every step that is laid moves the columns as its letter does -/
def CS (r : Nat) (bo im : Nat → Nat) (st : Nat → Int) (m : Nat) : Prop := ∀ x t v, x < m → t < r → v < m → st (x * 5 + t) = ((v : Nat) : Int) → ∀ i, i < r → EQr r (col im v i) (ac bo t (col im x i))
def CL (r : Nat) (im : Nat → Nat) (m : Nat) : Prop := ∀ z q i, z < m → q < r → i < r → im (25 * z + 5 * q + i) < 55441
theorem CS_lnk {r : Nat} {bo im : Nat → Nat} {st : Nat → Int} {m x t y : Nat} (hr : r ≤ 5) (hl : CL r im m) (h : CS r bo im st m) (hx : x < m) (hy : y < m) (ht : t < r) (hb : ∀ i, i < r → EQr r (col im y i) (ac bo t (col im x i))) : CS r bo im (lnk st x t y) m := by
  intro a b v ha hbr hv e i hi
  rw [lnk_at st x t y a b (by omega) (by omega)] at e
  by_cases c1 : b = t ∧ a = y
  · rw [if_pos c1] at e
    have ev : v = x := by omega
    rw [ev, c1.1, c1.2]
    intro q hq
    rw [ac_eq ht (hb i hi) q hq, ac_ac]
    exact hl x q i hx hq hi
  · rw [if_neg c1] at e
    by_cases c2 : b = t ∧ a = x
    · rw [if_pos c2] at e
      have ev : v = y := by omega
      rw [ev, c2.1, c2.2]
      exact hb i hi
    · rw [if_neg c2] at e
      exact h a b v ha hbr hv e i hi
theorem EQr_tr {r : Nat} {u v w : Nat → Nat} (h : EQr r u v) (h2 : EQr r v w) : EQr r u w := fun q hq => (h q hq).trans (h2 q hq)
theorem CS_osU {r : Nat} {bo im : Nat → Nat} {st : Nat → Int} {m s t : Nat} (hr : r ≤ 5) (hS : STok st m) (h : CS r bo im st m) (hs : s < r) (ht : t < r) : ∀ k l x v, (l = s ∨ l = t) → x < m → osU st s t k l x = ((v : Nat) : Int) → ∀ i, i < r → EQr r (col im v i) (altA bo s t k l (col im x i)) := by
  intro k
  induction k with
  | zero =>
    intro l x v _ _ e i _
    have ev : v = x := by simp only [osU] at e; omega
    rw [ev]
    exact fun q _ => rfl
  | succ k ih =>
    intro l x v hl hx e i hi
    unfold osU at e
    rcases hS x l hx (by omega) with c | ⟨y, a, b⟩
    · rw [if_pos c] at e; omega
    · rw [if_neg (by omega), b, Int.toNat_natCast] at e
      have h1 := ih (s + t - l) y v (by omega) a e i hi
      have h2 := h x l y hx (by omega) a b i hi
      exact EQr_tr h1 (altA_eq hs ht k _ _ _ (by omega) h2)
theorem CS_osD {r : Nat} {bo im : Nat → Nat} {st : Nat → Int} {le : Nat → Nat} {m s t n : Nat} (hr : r ≤ 5) (hS : STok st m) (h : CS r bo im st m) (hs : s < r) (ht : t < r) : ∀ k l x v, (l = s ∨ l = t) → x < m → osD st le s t n k l x = ((v : Nat) : Int) → ∀ i, i < r → EQr r (col im v i) (altA bo s t (k + n) l (col im x i)) := by
  intro k
  induction k with
  | zero => intro l x v hl hx e i hi; rw [Nat.zero_add]; exact CS_osU hr hS h hs ht n l x v hl hx e i hi
  | succ k ih =>
    intro l x v hl hx e i hi
    unfold osD at e
    rcases hS x l hx (by omega) with c | ⟨y, a, b⟩
    · rw [if_pos c] at e; omega
    · rw [if_neg (by omega), b, Int.toNat_natCast] at e
      by_cases c2 : le x < le y
      · rw [if_pos c2] at e; omega
      · rw [if_neg c2] at e
        have h1 := ih (s + t - l) y v (by omega) a e i hi
        have h2 := h x l y hx (by omega) a b i hi
        have e2 : k + 1 + n = (k + n) + 1 := by omega
        rw [e2]
        exact EQr_tr h1 (altA_eq hs ht (k + n) _ _ _ (by omega) h2)
/-- columns cut to numbers below the round -/
theorem CS_abL {r : Nat} {bo be im : Nat → Nat} {le : Nat → Nat} {m x w s : Nat} (hr : r ≤ 5) (hl : CL r im m) (hx : x < m) (hw : w < m) (hs : s < r) (hb : ∀ i, i < r → EQr r (col im x i) (ac bo s (col im w i))) (hbo : ∀ s t, s < r → t < r → s ≠ t → (2 ≤ be (s * 5 + t) ∧ be (s * 5 + t) ≤ 12) ∧ bo (5 * s + t) = be (s * 5 + t) ∧ bo (5 * t + s) = be (s * 5 + t)) : ∀ k t (st : Nat → Int), t + k = r → STok st m → CS r bo im st m → CS r bo im (abL be le x w s k t st) m := by
  intro k
  induction k with
  | zero => intro t st _ _ h; exact h
  | succ k ih =>
    intro t st ht hS h
    have htr : t < r := by omega
    have hlt : t ≠ s → oth st le (be (s * 5 + t)) w s t ≠ -1 → (oth st le (be (s * 5 + t)) w s t).toNat < m := fun _ q => osD_lt hS (by omega) (by omega) _ _ _ (Or.inr rfl) hw q
    refine ih (t + 1) _ (by omega) ?_ ?_
    · unfold abN
      split
      · exact hS
      · split
        · exact hS
        · rename_i a b
          exact STok_lnk hS (hlt a b) (by omega) hx
    · unfold abN
      split
      · exact h
      · split
        · exact h
        · rename_i a b
          have hv := hlt a b
          have hge : oth st le (be (s * 5 + t)) w s t = (((oth st le (be (s * 5 + t)) w s t).toNat : Nat) : Int) := by
            have : 0 ≤ oth st le (be (s * 5 + t)) w s t ∨ oth st le (be (s * 5 + t)) w s t = -1 := by
              have key : ∀ n k l y, (l = s ∨ l = t) → y < m → osD st le s t n k l y = -1 ∨ 0 ≤ osD st le s t n k l y := by
                intro n k
                induction k with
                | zero =>
                  intro l y hl hy
                  have kU : ∀ n l y, (l = s ∨ l = t) → y < m → osU st s t n l y = -1 ∨ 0 ≤ osU st s t n l y := by
                    intro n
                    induction n with
                    | zero => intro l y _ _; exact Or.inr (by simp only [osU]; omega)
                    | succ n ihn =>
                      intro l y hl hy
                      unfold osU
                      rcases hS y l hy (by omega) with c | ⟨z, c, d⟩
                      · rw [if_pos c]; exact Or.inl rfl
                      · rw [if_neg (by omega), d, Int.toNat_natCast]; exact ihn _ z (by omega) c
                  exact kU n l y hl hy
                | succ k ihk =>
                  intro l y hl hy
                  unfold osD
                  rcases hS y l hy (by omega) with c | ⟨z, c, d⟩
                  · rw [if_pos c]; exact Or.inl rfl
                  · rw [if_neg (by omega), d, Int.toNat_natCast]
                    split
                    · exact Or.inl rfl
                    · exact ihk _ z (by omega) c
              rcases key (be (s * 5 + t) - 1) (be (s * 5 + t) - 1) t w (Or.inr rfl) hw with q | q
              · exact Or.inr q
              · exact Or.inl q
            omega
          refine CS_lnk hr hl h hv hx htr (fun i hi => ?_)
          obtain ⟨hm, b1, b2⟩ := hbo s t hs htr (fun q => a q.symm)
          have hcol := CS_osD (le := le) (n := be (s * 5 + t) - 1) hr hS h hs htr (be (s * 5 + t) - 1) t w _ (Or.inr rfl) hw hge i hi
          have e2 : be (s * 5 + t) - 1 + (be (s * 5 + t) - 1) = 2 * (be (s * 5 + t) - 1) := by omega
          rw [e2] at hcol
          let u : Nat → Nat := fun q => if q < r then col im w i q else 0
          have hu : ∀ q, u q < 55441 := by
            intro q
            show (if q < r then col im w i q else 0) < 55441
            split
            · rename_i hq; exact hl w q i hw hq hi
            · decide
          have hue : EQr r (col im w i) u := fun q hq => by show _ = if q < r then col im w i q else 0; rw [if_pos hq]
          have hbr := braid_s hm (fun q => a q.symm) b1 b2 hu
          intro q hq
          rw [hb i hi q hq, ac_eq hs hue q hq, ← hbr q]
          exact (ac_eq htr (EQr_tr hcol (altA_eq hs htr _ _ _ _ (Or.inr rfl) hue)) q hq).symm
def CIv (r : Nat) (bo : Nat → Nat) (st : Nat → Int) (mn w s : Nat) : Prop := ∃ im : Nat → Nat, (∀ q i, q < r → i < r → im (5 * q + i) = if q = i then 1 else 0) ∧ CL r im mn ∧ CS r bo im st mn ∧ (∀ x t, t < r → (x < w ∨ (x = w ∧ t < s)) → st (x * 5 + t) ≠ -1)

theorem CIv_2 {r : Nat} {bo be le : Nat → Nat} {st : Nat → Int} {mn w s : Nat} (hr : r ≤ 5) (hbo : ∀ s t, s < r → t < r → s ≠ t → (2 ≤ be (s * 5 + t) ∧ be (s * 5 + t) ≤ 12) ∧ bo (5 * s + t) = be (s * 5 + t) ∧ bo (5 * t + s) = be (s * 5 + t)) (hB : BI le st mn) (hm : mn < 60) (h : CIv r bo st mn w s) (hw : w < mn) (hs : s < r) : CIv r bo (abS be (uN le mn (le w + 1)) r mn w s st) (mn + 1) w (s + 1) := by
  obtain ⟨im, h1, h2, h3, h4⟩ := h
  have hS := hB.2.2.1
  let im2 : Nat → Nat := fun k => if 25 * mn ≤ k ∧ k < 25 * mn + 25 then stp bo im w s ((k - 25 * mn) / 5) ((k - 25 * mn) % 5) else im k
  have old : ∀ k, k < 25 * mn → im2 k = im k := fun k hk => if_neg (by omega)
  have new : ∀ q i, q < 5 → i < 5 → im2 (25 * mn + 5 * q + i) = stp bo im w s q i := by
    intro q i hq hi
    show (if _ then _ else _) = _
    rw [if_pos (by omega)]
    have e1 : (25 * mn + 5 * q + i - 25 * mn) / 5 = q := by omega
    have e2 : (25 * mn + 5 * q + i - 25 * mn) % 5 = i := by omega
    rw [e1, e2]
  have ocol : ∀ x i, x < mn → i < r → EQr r (col im2 x i) (col im x i) := fun x i hx hi q hq => old _ (by omega)
  have hl2 : CL r im2 (mn + 1) := by
    intro z q i hz hq hi
    by_cases e : z = mn
    · rw [e, new q i (by omega) (by omega)]; exact stp_lt _ _ _ _ _ _
    · rw [old _ (by omega)]; exact h2 z q i (by omega) hq hi
  have hb : ∀ i, i < r → EQr r (col im2 mn i) (ac bo s (col im2 w i)) := by
    intro i hi q hq
    have := new q i (by omega) (by omega)
    rw [stp_col] at this
    show im2 (25 * mn + 5 * q + i) = _
    rw [this]
    exact (ac_eq hs (ocol w i hw hi) q hq).symm
  have hS5 := STok_n5 hS
  have h5 : CS r bo im2 (n5 st mn) (mn + 1) := by
    intro a b v ha hbr hv e i hi
    rw [n5_at st mn a b (by omega)] at e
    by_cases c : a = mn
    · rw [if_pos c] at e; omega
    · rw [if_neg c] at e
      have hv2 : v < mn := by
        rcases hS a b (by omega) (by omega) with q | ⟨y, p, q⟩
        · omega
        · omega
      have h6 := h3 a b v (by omega) hbr hv2 e i hi
      intro q hq
      rw [ocol v i hv2 hi q hq, h6 q hq]
      exact (ac_eq hbr (ocol a i (by omega) hi) q hq).symm
  have hS6 := STok_lnk (v := w) (t := s) (x := mn) hS5 (by omega) (by omega) (by omega)
  have hlt9 : ∀ (st2 : Nat → Int), STok st2 (mn + 1) → ∀ t, t < 5 → oth st2 (uN le mn (le w + 1)) (be (s * 5 + t)) w s t ≠ -1 → (oth st2 (uN le mn (le w + 1)) (be (s * 5 + t)) w s t).toNat < mn + 1 := fun st2 q t ht r2 => osD_lt q (by omega) ht _ _ _ (Or.inr rfl) (by omega) r2
  refine ⟨im2, fun q i hq hi => ?_, hl2, CS_abL hr hl2 (by omega) (by omega) hs hb hbo r 0 _ (by omega) hS6 (CS_lnk hr hl2 h5 (by omega) (by omega) hs hb), fun x t ht hx => ?_⟩
  · rw [old _ (by have := hB.1; omega)]; exact h1 q i hq hi
  · have keep : ∀ k u (st2 : Nat → Int), u + k ≤ 5 → STok st2 (mn + 1) → st2 (x * 5 + t) ≠ -1 → abL be (uN le mn (le w + 1)) mn w s k u st2 (x * 5 + t) ≠ -1 := by
      intro k
      induction k with
      | zero => intro u st2 _ _ q; exact q
      | succ k ih =>
        intro u st2 hu q1 q
        have hlt8 := hlt9 st2 q1 u (by omega)
        refine ih (u + 1) _ (by omega) ?_ ?_
        · unfold abN
          split
          · exact q1
          · split
            · exact q1
            · rename_i a b
              exact STok_lnk q1 (hlt8 b) (by omega) (by omega)
        · unfold abN
          split
          · exact q
          · split
            · exact q
            · rw [lnk_at _ _ _ _ x t (by omega) (by omega)]
              split
              · omega
              · split
                · omega
                · exact q
    refine keep r 0 _ (by omega) hS6 ?_
    rw [lnk_at _ _ _ _ x t (by omega) (by omega)]
    split
    · omega
    · split
      · omega
      · rename_i c1 c2
        rw [n5_at st mn x t (by omega), if_neg (by omega)]
        exact h4 x t ht (by omega)
theorem c_X1_findAll_bad {G : GG} {j nw nx gn : Nat} {g : Nat → Sh} {c : Nat → Nat → Int} {post : Option AV → AM → Prop} {e : Nat} {be : Nat → Nat} {pr : Nat → Nat} {iv : Nat → Nat} {fa : Nat → Nat} {eb : Nat → Nat} {ml : Nat → Nat} {mf : Nat → Int} {rw : Nat → Nat} {dn : Nat → Nat} {rk : Nat} {mm : Nat} {bo : Nat → Nat} {le hd ls : Nat → Nat} {st : Nat → Int} (he : e = 21 ∨ e = 35) (hrk : rk ≤ 5) (hB : BAD rk bo) (hbo : ∀ s t, s < rk → t < rk → s ≠ t → (2 ≤ be (s * 5 + t) ∧ be (s * 5 + t) ≤ 12) ∧ bo (5 * s + t) = be (s * 5 + t) ∧ bo (5 * t + s) = be (s * 5 + t)) (K : ∀ (le hd ls : Nat → Nat) (st : Nat → Int) (mn : Nat), post (some (vi 0)) (S nw nx g, 78 + gn, (em c e be le hd ls st pr iv fa eb ml mf rw dn rk mn mm))) : SM G (j + 4) mX1_findAll [vr (e)] (S nw nx g, 78 + gn, (em c e be le hd ls st pr iv fa eb ml mf rw dn rk 0 mm)) 0 0 post := by
  refine c_X1_findAll (fun _ _ _ st mn w s => CIv rk bo st mn w s) he hrk (fun s t a b c => (hbo s t a b c).1) ?_ ?_ ?_ ?_ ?_ ?_
  · intro le hd ls st a b d f
    refine ⟨fun k => if k % 6 = 0 then 1 else 0, id_at hrk (fun k _ => rfl), ?_, ?_, ?_⟩
    · intro z q i hz hq hi
      show (if (25 * z + 5 * q + i) % 6 = 0 then 1 else 0) < 55441
      split <;> omega
    · intro x t v hx ht hv e
      have ex : x = 0 := by omega
      rw [ex, f t (by omega)] at e
      omega
    · intro x t _ h; omega
  · intro le hd ls st mn w s h _ hw hs hc
    obtain ⟨im, h1, h2, h3, h4⟩ := h
    refine ⟨im, h1, h2, h3, fun x t ht hx => ?_⟩
    by_cases e : x = w ∧ t = s
    · rw [e.1, e.2]; exact hc
    · exact h4 x t ht (by omega)
  · intro le hd ls st mn w s h hBI hm hw hs _
    exact CIv_2 hrk hbo hBI hm h hw hs
  · intro le hd ls st mn w h
    obtain ⟨im, h1, h2, h3, h4⟩ := h
    exact ⟨im, h1, h2, h3, fun x t ht hx => h4 x t ht (by omega)⟩
  · intro le hd ls st mn w s _ _ _ _ _
    exact K _ _ _ _ _
  · intro le hd ls st mn w h hBI hm
    obtain ⟨im, h1, h2, h3, h4⟩ := h
    exfalso
    refine hB im mn hBI.1 hBI.2.1 ⟨h1, h2, fun x s hs hx => ?_⟩
    have hx2 : x < mn := by omega
    rcases hBI.2.2.1 x s hx2 (by omega) with q | ⟨v, a, b⟩
    · exact absurd q (h4 x s hs (by omega))
    · exact ⟨v, a, fun q i hq hi => h3 x s v hx2 hs a b i hi q hq⟩

