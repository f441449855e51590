theorem m_put_size (c : Nat → Nat → Int) (n : Nat) (z : Int) : m_put c n z 1 1 = ((n + 1 + 1 + 1 + 1 : Nat) : Int) := up2_eq _ _ _ _
theorem m_put_off (c : Nat → Nat → Int) (n : Nat) (z : Int) (a k : Nat) (h : a ≠ 1 ∧ a ≠ 2) : m_put c n z a k = c a k := by
  simp only [m_put, up2]
  simp [h.1, h.2]
def m_feed (c : Nat → Nat → Int) (n : Nat) (a b d e f : Int) : Nat → Nat → Int := m_put (m_put (m_put (m_put (m_put c n a) (n + 1 + 1 + 1 + 1) b) (n + 1 + 1 + 1 + 1 + 1 + 1 + 1 + 1) d) (n + 1 + 1 + 1 + 1 + 1 + 1 + 1 + 1 + 1 + 1 + 1 + 1) e) (n + 1 + 1 + 1 + 1 + 1 + 1 + 1 + 1 + 1 + 1 + 1 + 1 + 1 + 1 + 1 + 1) f
set_option maxHeartbeats 2000000 in
set_option maxRecDepth 20000 in
theorem g_X8_feed_0 {G : GG} {j nw nx gn : Nat} {g : Nat → Sh} {c : Nat → Nat → Int} {post : Option AV → AM → Prop} {a : Int} {b : Int} {d : Int} {e : Int} {f : Int} {n : Nat} (hS : c 1 1 = ((n : Nat) : Int))  (hv : (n + 20 < 2147483648) ∧ (((n + 20 ≤ 300) → (n + 4 ≤ 300) ∧ (((n + 1 + 1 + 1 + 1) + 4 ≤ 300) ∧ (((n + 1 + 1 + 1 + 1 + 1 + 1 + 1 + 1) + 4 ≤ 300) ∧ (((n + 1 + 1 + 1 + 1 + 1 + 1 + 1 + 1 + 1 + 1 + 1 + 1) + 4 ≤ 300) ∧ (((n + 1 + 1 + 1 + 1 + 1 + 1 + 1 + 1 + 1 + 1 + 1 + 1 + 1 + 1 + 1 + 1) + 4 ≤ 300) ∧ (post (some (vi ((m_put (m_put (m_put (m_put (m_put c n a) (n + 1 + 1 + 1 + 1) b) (n + 1 + 1 + 1 + 1 + 1 + 1 + 1 + 1) d) (n + 1 + 1 + 1 + 1 + 1 + 1 + 1 + 1 + 1 + 1 + 1 + 1) e) (n + 1 + 1 + 1 + 1 + 1 + 1 + 1 + 1 + 1 + 1 + 1 + 1 + 1 + 1 + 1 + 1) f) 1 1))) (S nw nx g, 78 + gn, (m_put (m_put (m_put (m_put (m_put c n a) (n + 1 + 1 + 1 + 1) b) (n + 1 + 1 + 1 + 1 + 1 + 1 + 1 + 1) d) (n + 1 + 1 + 1 + 1 + 1 + 1 + 1 + 1 + 1 + 1 + 1 + 1) e) (n + 1 + 1 + 1 + 1 + 1 + 1 + 1 + 1 + 1 + 1 + 1 + 1 + 1 + 1 + 1 + 1) f)))))))) ∧ ((¬ (n + 20 ≤ 300)) → post (some (vi ((-1)))) (S nw nx g, 78 + gn, c)))) :
    SW G (j + 1) mX8_feed 0 [some (vr (0)), some (vi (a)), some (vi (b)), some (vi (d)), some (vi (e)), some (vi (f))] [] (S nw nx g, 78 + gn, c) B0 post := by
  refine sw_aload_n (dX8_feed.at 0 rfl) rfl rfl ?_
  refine sw_getR (dX8_feed.at 1 rfl) fp_X8_10 (S_lt 0 (by decide)) (S_0 nw nx g) rfl rfl ?_
  refine sw_getIE (w := ((n : Nat) : Int)) (dX8_feed.at 2 rfl) fp_X8_76 (S_lt 1 (by decide)) (S_1 nw nx g) rfl hS ?_
  refine sw_bipush (dX8_feed.at 3 rfl) (by decide) ?_
  refine sw_iadd (dX8_feed.at 4 rfl) ?_
  refine sw_topI (y := ((n + 20 : Nat) : Int)) (by first | rfl | (congr 1)) ?_
  refine sw_sipush (dX8_feed.at 5 rfl) (by decide) ?_
  refine sw_icmpN_le (n + 20) 300 (tgt := 18) (dX8_feed.at 6 rfl) (by decide) hv.1 (by decide) (fun q => ?_) (fun q => ?_)
  · replace hv := hv.2.1 q
    refine sw_aload_n (dX8_feed.at 9 rfl) rfl rfl ?_
    refine sw_getR (dX8_feed.at 10 rfl) fp_X8_10 (S_lt 0 (by decide)) (S_0 nw nx g) rfl rfl ?_
    refine sw_iload_n (dX8_feed.at 11 rfl) rfl rfl ?_
    refine sw_callV (B' := B0) (As := [vi (a)]) (mc := 0) (ms := 0) (dX8_feed.at 12 rfl) lk_X8_79 (S_lt 1 (by decide)) (S_1 nw nx g) rfl rfl (Nat.le_of_ble_eq_true rfl) rfl (Nat.le_refl _) (Nat.le_refl _) ?_
    refine c_X6_put (n := n) (z := a) (j := j + 0) hS hv.1 ?_
    replace hv := hv.2
    refine sw_aload_n (dX8_feed.at 13 rfl) rfl rfl ?_
    refine sw_getR (dX8_feed.at 14 rfl) fp_X8_10 (S_lt 0 (by decide)) (S_0 nw nx g) rfl rfl ?_
    refine sw_iload_n (dX8_feed.at 15 rfl) rfl rfl ?_
    refine sw_callV (B' := B0) (As := [vi (b)]) (mc := 0) (ms := 0) (dX8_feed.at 16 rfl) lk_X8_79 (S_lt 1 (by decide)) (S_1 nw nx g) rfl rfl (Nat.le_of_ble_eq_true rfl) rfl (Nat.le_refl _) (Nat.le_refl _) ?_
    refine c_X6_put (n := (n + 1 + 1 + 1 + 1)) (z := b) (j := j + 0) (m_put_size c n a) hv.1 ?_
    replace hv := hv.2
    refine sw_aload_n (dX8_feed.at 17 rfl) rfl rfl ?_
    refine sw_getR (dX8_feed.at 18 rfl) fp_X8_10 (S_lt 0 (by decide)) (S_0 nw nx g) rfl rfl ?_
    refine sw_iload_n (dX8_feed.at 19 rfl) rfl rfl ?_
    refine sw_callV (B' := B0) (As := [vi (d)]) (mc := 0) (ms := 0) (dX8_feed.at 20 rfl) lk_X8_79 (S_lt 1 (by decide)) (S_1 nw nx g) rfl rfl (Nat.le_of_ble_eq_true rfl) rfl (Nat.le_refl _) (Nat.le_refl _) ?_
    refine c_X6_put (n := (n + 1 + 1 + 1 + 1 + 1 + 1 + 1 + 1)) (z := d) (j := j + 0) (m_put_size (m_put c n a) (n + 1 + 1 + 1 + 1) b) hv.1 ?_
    replace hv := hv.2
    refine sw_aload_n (dX8_feed.at 21 rfl) rfl rfl ?_
    refine sw_getR (dX8_feed.at 22 rfl) fp_X8_10 (S_lt 0 (by decide)) (S_0 nw nx g) rfl rfl ?_
    refine sw_iload (dX8_feed.at 23 rfl) rfl ?_
    refine sw_callV (B' := B0) (As := [vi (e)]) (mc := 0) (ms := 0) (dX8_feed.at 24 rfl) lk_X8_79 (S_lt 1 (by decide)) (S_1 nw nx g) rfl rfl (Nat.le_of_ble_eq_true rfl) rfl (Nat.le_refl _) (Nat.le_refl _) ?_
    refine c_X6_put (n := (n + 1 + 1 + 1 + 1 + 1 + 1 + 1 + 1 + 1 + 1 + 1 + 1)) (z := e) (j := j + 0) (m_put_size (m_put (m_put c n a) (n + 1 + 1 + 1 + 1) b) (n + 1 + 1 + 1 + 1 + 1 + 1 + 1 + 1) d) hv.1 ?_
    replace hv := hv.2
    refine sw_aload_n (dX8_feed.at 25 rfl) rfl rfl ?_
    refine sw_getR (dX8_feed.at 26 rfl) fp_X8_10 (S_lt 0 (by decide)) (S_0 nw nx g) rfl rfl ?_
    refine sw_iload (dX8_feed.at 27 rfl) rfl ?_
    refine sw_callV (B' := B0) (As := [vi (f)]) (mc := 0) (ms := 0) (dX8_feed.at 28 rfl) lk_X8_79 (S_lt 1 (by decide)) (S_1 nw nx g) rfl rfl (Nat.le_of_ble_eq_true rfl) rfl (Nat.le_refl _) (Nat.le_refl _) ?_
    refine c_X6_put (n := (n + 1 + 1 + 1 + 1 + 1 + 1 + 1 + 1 + 1 + 1 + 1 + 1 + 1 + 1 + 1 + 1)) (z := f) (j := j + 0) (m_put_size (m_put (m_put (m_put c n a) (n + 1 + 1 + 1 + 1) b) (n + 1 + 1 + 1 + 1 + 1 + 1 + 1 + 1) d) (n + 1 + 1 + 1 + 1 + 1 + 1 + 1 + 1 + 1 + 1 + 1 + 1) e) hv.1 ?_
    replace hv := hv.2
    refine sw_aload_n (dX8_feed.at 29 rfl) rfl rfl ?_
    refine sw_getR (dX8_feed.at 30 rfl) fp_X8_10 (S_lt 0 (by decide)) (S_0 nw nx g) rfl rfl ?_
    refine sw_getI (dX8_feed.at 31 rfl) fp_X8_76 (S_lt 1 (by decide)) (S_1 nw nx g) rfl ?_
    exact sw_iret (dX8_feed.at 32 rfl) rfl (Nat.le_refl _) (Nat.le_refl _) hv
  · replace hv := hv.2.2 q
    refine sw_iconst (dX8_feed.at 7 rfl) ?_
    exact sw_iret (dX8_feed.at 8 rfl) rfl (Nat.le_refl _) (Nat.le_refl _) hv

set_option maxHeartbeats 4000000 in
theorem c_X8_feed {G : GG} {j nw nx gn : Nat} {g : Nat → Sh} {c : Nat → Nat → Int} {post : Option AV → AM → Prop} {n : Nat} {a b d e f : Int} (hS : c 1 1 = ((n : Nat) : Int)) (hn : n ≤ 300) (K : post (some (vi (if n + 20 ≤ 300 then ((n + 20 : Nat) : Int) else -1))) (S nw nx g, 78 + gn, if n + 20 ≤ 300 then m_feed c n a b d e f else c)) : SM G (j + 2) mX8_feed [vr 0, vi a, vi b, vi d, vi e, vi f] (S nw nx g, 78 + gn, c) 0 0 post := by
  refine sm_of wX8_feed rfl (Nat.le_of_ble_eq_true rfl) ?_
  refine g_X8_feed_0 hS ?_
  by_cases h : n + 20 ≤ 300
  · rw [if_pos h, if_pos h] at K
    refine ⟨?_, ⟨fun q => ⟨?_, ⟨?_, ⟨?_, ⟨?_, ⟨?_, ?_⟩⟩⟩⟩⟩, fun q => ?_⟩⟩
    all_goals first | exact K | omega | (exfalso; omega) | (rw [m_put_size]; exact K)
  · rw [if_neg h, if_neg h] at K
    refine ⟨?_, ⟨fun q => ⟨?_, ⟨?_, ⟨?_, ⟨?_, ⟨?_, ?_⟩⟩⟩⟩⟩, fun q => ?_⟩⟩
    all_goals first | exact K | omega | (exfalso; omega)

def q_end (n : Nat) (x : Int) : Int := if 0 ≤ x ∧ x ≤ (n : Int) then x else -1
def m_end (n : Nat) (x : Int) (c : Nat → Nat → Int) : Nat → Nat → Int := if 0 ≤ x ∧ x ≤ (n : Int) then up2 c 1 1 x else c
set_option maxHeartbeats 2000000 in
set_option maxRecDepth 20000 in
theorem g_X8_end_0 {G : GG} {j nw nx gn : Nat} {g : Nat → Sh} {c : Nat → Nat → Int} {post : Option AV → AM → Prop} {x : Int} {n : Nat} (hS : c 1 1 = ((n : Nat) : Int))  (hv : (-2147483648 ≤ x ∧ x < 2147483648) ∧ (((x < 0) → post (some (vi ((-1)))) (S nw nx g, 78 + gn, c)) ∧ ((¬ (x < 0)) → (-2147483648 ≤ x ∧ x < 2147483648) ∧ (n < 2147483648) ∧ (((x ≤ ((n : Nat) : Int)) → post (some (vi (x))) (S nw nx g, 78 + gn, (up2 c 1 1 x))) ∧ ((¬ (x ≤ ((n : Nat) : Int))) → post (some (vi ((-1)))) (S nw nx g, 78 + gn, c)))))) :
    SW G (j + 0) mX8_end 0 [some (vr (0)), some (vi (x))] [] (S nw nx g, 78 + gn, c) B0 post := by
  refine sw_iload_n (dX8_end.at 0 rfl) rfl rfl ?_
  refine sw_if_lt (tgt := 15) (dX8_end.at 1 rfl) (by decide) hv.1 (fun q => ?_) (fun q => ?_)
  · replace hv := hv.2.1 q
    refine sw_iconst (dX8_end.at 7 rfl) ?_
    exact sw_iret (dX8_end.at 8 rfl) rfl (Nat.le_refl _) (Nat.le_refl _) hv
  · replace hv := hv.2.2 q
    refine sw_iload_n (dX8_end.at 2 rfl) rfl rfl ?_
    refine sw_aload_n (dX8_end.at 3 rfl) rfl rfl ?_
    refine sw_getR (dX8_end.at 4 rfl) fp_X8_10 (S_lt 0 (by decide)) (S_0 nw nx g) rfl rfl ?_
    refine sw_getIE (w := ((n : Nat) : Int)) (dX8_end.at 5 rfl) fp_X8_76 (S_lt 1 (by decide)) (S_1 nw nx g) rfl hS ?_
    refine sw_icmp_le (tgt := 17) (dX8_end.at 6 rfl) (by decide) hv.1 (nrng hv.2.1) (fun q => ?_) (fun q => ?_)
    · replace hv := hv.2.2.1 q
      refine sw_aload_n (dX8_end.at 9 rfl) rfl rfl ?_
      refine sw_getR (dX8_end.at 10 rfl) fp_X8_10 (S_lt 0 (by decide)) (S_0 nw nx g) rfl rfl ?_
      refine sw_iload_n (dX8_end.at 11 rfl) rfl rfl ?_
      refine sw_putI (dX8_end.at 12 rfl) fp_X8_76 (S_lt 1 (by decide)) (S_1 nw nx g) rfl ?_
      refine sw_iload_n (dX8_end.at 13 rfl) rfl rfl ?_
      exact sw_iret (dX8_end.at 14 rfl) rfl (Nat.le_refl _) (Nat.le_refl _) hv
    · replace hv := hv.2.2.2 q
      refine sw_iconst (dX8_end.at 7 rfl) ?_
      exact sw_iret (dX8_end.at 8 rfl) rfl (Nat.le_refl _) (Nat.le_refl _) hv

set_option maxHeartbeats 4000000 in
theorem c_X8_end {G : GG} {j nw nx gn : Nat} {g : Nat → Sh} {c : Nat → Nat → Int} {post : Option AV → AM → Prop} {n : Nat} {x : Int} (hS : c 1 1 = ((n : Nat) : Int)) (hn : n ≤ 300) (p1 : -2147483648 ≤ x ∧ x < 2147483648) (K : post (some (vi (q_end n x))) (S nw nx g, 78 + gn, m_end n x c)) : SM G (j + 1) mX8_end [vr 0, vi x] (S nw nx g, 78 + gn, c) 0 0 post := by
  refine sm_of wX8_end rfl (Nat.le_of_ble_eq_true rfl) ?_
  refine g_X8_end_0 hS ?_
  by_cases h : 0 ≤ x ∧ x ≤ (n : Int)
  · rw [q_end, m_end, if_pos h, if_pos h] at K
    refine ⟨?_, ⟨fun q => ?_, fun q => ⟨?_, ?_, ⟨fun q => ?_, fun q => ?_⟩⟩⟩⟩
    all_goals first | exact K | omega | (exfalso; omega)
  · rw [q_end, m_end, if_neg h, if_neg h] at K
    refine ⟨?_, ⟨fun q => ?_, fun q => ⟨?_, ?_, ⟨fun q => ?_, fun q => ?_⟩⟩⟩⟩
    all_goals first | exact K | omega | (exfalso; omega)

def q_fault (k l x : Int) : Int := if x = 0 then k else if x = 1 then l else -1
set_option maxHeartbeats 2000000 in
set_option maxRecDepth 20000 in
theorem g_X8_fault_0 {G : GG} {j nw nx gn : Nat} {g : Nat → Sh} {c : Nat → Nat → Int} {post : Option AV → AM → Prop} {x : Int}  (hv : (-2147483648 ≤ x ∧ x < 2147483648) ∧ (((x ≠ 0) → (-2147483648 ≤ x ∧ x < 2147483648) ∧ (((x ≠ 1) → post (some (vi ((-1)))) (S nw nx g, 78 + gn, c)) ∧ ((x = 1) → post (some (vi (c 3 4))) (S nw nx g, 78 + gn, c)))) ∧ ((x = 0) → post (some (vi (c 3 3))) (S nw nx g, 78 + gn, c)))) :
    SW G (j + 0) mX8_fault 0 [some (vr (0)), some (vi (x))] [] (S nw nx g, 78 + gn, c) B0 post := by
  refine sw_iload_n (dX8_fault.at 0 rfl) rfl rfl ?_
  refine sw_if_ne (tgt := 12) (dX8_fault.at 1 rfl) (by decide) hv.1 (fun q => ?_) (fun q => ?_)
  · replace hv := hv.2.1 q
    refine sw_iload_n (dX8_fault.at 6 rfl) rfl rfl ?_
    refine sw_iconst (dX8_fault.at 7 rfl) ?_
    refine sw_icmp_ne (tgt := 27) (dX8_fault.at 8 rfl) (by decide) hv.1 (by decide) (fun q => ?_) (fun q => ?_)
    · replace hv := hv.2.1 q
      refine sw_iconst (dX8_fault.at 13 rfl) ?_
      exact sw_iret (dX8_fault.at 14 rfl) rfl (Nat.le_refl _) (Nat.le_refl _) hv
    · replace hv := hv.2.2 q
      refine sw_aload_n (dX8_fault.at 9 rfl) rfl rfl ?_
      refine sw_getR (dX8_fault.at 10 rfl) fp_X8_19 (S_lt 0 (by decide)) (S_0 nw nx g) rfl rfl ?_
      refine sw_getI (dX8_fault.at 11 rfl) fp_X8_106 (S_lt 3 (by decide)) (S_3 nw nx g) rfl ?_
      refine sw_goto (tgt := 28) (dX8_fault.at 12 rfl) (by decide) ?_
      exact sw_iret (dX8_fault.at 14 rfl) rfl (Nat.le_refl _) (Nat.le_refl _) hv
  · replace hv := hv.2.2 q
    refine sw_aload_n (dX8_fault.at 2 rfl) rfl rfl ?_
    refine sw_getR (dX8_fault.at 3 rfl) fp_X8_19 (S_lt 0 (by decide)) (S_0 nw nx g) rfl rfl ?_
    refine sw_getI (dX8_fault.at 4 rfl) fp_X8_87 (S_lt 3 (by decide)) (S_3 nw nx g) rfl ?_
    exact sw_iret (dX8_fault.at 5 rfl) rfl (Nat.le_refl _) (Nat.le_refl _) hv

set_option maxHeartbeats 4000000 in
theorem c_X8_fault {G : GG} {j nw nx gn : Nat} {g : Nat → Sh} {c : Nat → Nat → Int} {post : Option AV → AM → Prop} {x : Int} (p1 : -2147483648 ≤ x ∧ x < 2147483648) (K : post (some (vi (q_fault (c 3 3) (c 3 4) x))) (S nw nx g, 78 + gn, c)) : SM G (j + 1) mX8_fault [vr 0, vi x] (S nw nx g, 78 + gn, c) 0 0 post := by
  refine sm_of wX8_fault rfl (Nat.le_of_ble_eq_true rfl) ?_
  refine g_X8_fault_0 ?_
  have K1 : ∀ z : Int, z = q_fault (c 3 3) (c 3 4) x → post (some (vi z)) (S nw nx g, 78 + gn, c) := fun z h => h ▸ K
  refine ⟨?_, ⟨fun q => ⟨?_, ⟨fun q => ?_, fun q => ?_⟩⟩, fun q => ?_⟩⟩
  all_goals first | omega | (refine K1 _ ?_; simp [q_fault, *]; done)

def q_count (P : GD) (l a t x : Int) : Int := if x = 0 then (gR P : Int) else if x = 1 then (gN P : Int) else if x = 2 then (gTop P : Int) else if x = 3 then (gM P : Int) else if x = 4 then l else if x = 5 then a else if x = 6 then t else -1
set_option maxHeartbeats 2000000 in
set_option maxRecDepth 20000 in
theorem g_X8_count_0 {G : GG} {j nw nx gn : Nat} {g : Nat → Sh} {c : Nat → Nat → Int} {post : Option AV → AM → Prop} {x : Int} {P : GD} (hnw : nw = 21 ∨ nw = 35) (hE : EL c nw P) (hV : GV P)  (hv : (-2147483648 ≤ x ∧ x < 2147483648) ∧ ((x = 0) → post (some (vi (((gR P : Nat) : Int)))) (S nw nx g, 78 + gn, c)) ∧ ((x = 1) → post (some (vi (((gN P : Nat) : Int)))) (S nw nx g, 78 + gn, c)) ∧ ((x = 2) → post (some (vi (((gTop P : Nat) : Int)))) (S nw nx g, 78 + gn, c)) ∧ ((x = 3) → post (some (vi (((gM P : Nat) : Int)))) (S nw nx g, 78 + gn, c)) ∧ ((x = 4) → post (some (vi (c 0 10))) (S nw nx g, 78 + gn, c)) ∧ ((x = 5) → post (some (vi (c 15 5))) (S nw nx g, 78 + gn, c)) ∧ ((x = 6) → post (some (vi (c 1 1))) (S nw nx g, 78 + gn, c)) ∧ ((x < 0 ∨ 6 < x) → post (some (vi ((-1)))) (S nw nx g, 78 + gn, c))) :
    SW G (j + 1) mX8_count 0 [some (vr (0)), some (vi (x))] [] (S nw nx g, 78 + gn, c) B0 post := by
  refine sw_iload_n (dX8_count.at 0 rfl) rfl rfl ?_
  by_cases q : x = 0
  · refine sw_tsIn (tgt := 44) (dX8_count.at 1 rfl) hv.1 (by omega) (by omega) (by rw [q]; rfl) (by decide) ?_
    replace hv := hv.2.1 q
    refine sw_aload_n (dX8_count.at 2 rfl) rfl rfl ?_
    refine sw_getR (dX8_count.at 3 rfl) fp_X8_65 (S_lt 0 (by decide)) (S_0 nw nx g) rfl rfl ?_
    refine sw_getIE (w := ((gR P : Nat) : Int)) (dX8_count.at 4 rfl) fp_X8_109 (S_e_lt hnw) (S_e hnw) rfl (EL_R hE) ?_
    exact sw_iret (dX8_count.at 5 rfl) rfl (Nat.le_refl _) (Nat.le_refl _) hv
  · have q1_0 := q
    clear q
    by_cases q : x = 1
    · refine sw_tsIn (tgt := 52) (dX8_count.at 1 rfl) hv.1 (by omega) (by omega) (by rw [q]; rfl) (by decide) ?_
      replace hv := hv.2.2.1 q
      refine sw_aload_n (dX8_count.at 6 rfl) rfl rfl ?_
      refine sw_getR (dX8_count.at 7 rfl) fp_X8_65 (S_lt 0 (by decide)) (S_0 nw nx g) rfl rfl ?_
      refine sw_getIE (w := ((gN P : Nat) : Int)) (dX8_count.at 8 rfl) fp_X8_103 (S_e_lt hnw) (S_e hnw) rfl (EL_N hE) ?_
      exact sw_iret (dX8_count.at 9 rfl) rfl (Nat.le_refl _) (Nat.le_refl _) hv
    · have q1_1 := q
      clear q
      by_cases q : x = 2
      · refine sw_tsIn (tgt := 60) (dX8_count.at 1 rfl) hv.1 (by omega) (by omega) (by rw [q]; rfl) (by decide) ?_
        replace hv := hv.2.2.2.1 q
        refine sw_aload_n (dX8_count.at 10 rfl) rfl rfl ?_
        refine sw_getR (dX8_count.at 11 rfl) fp_X8_65 (S_lt 0 (by decide)) (S_0 nw nx g) rfl rfl ?_
        refine sw_callV (B' := B0) (As := []) (mc := 0) (ms := 0) (dX8_count.at 12 rfl) lk_X8_112 (S_e_lt hnw) (S_e hnw) rfl rfl (Nat.le_of_ble_eq_true rfl) rfl (Nat.le_refl _) (Nat.le_refl _) ?_
        refine c_X1_highest (e := nw) (j := j + 0) hnw hE hV ?_
        exact sw_iret (dX8_count.at 13 rfl) rfl (Nat.le_refl _) (Nat.le_refl _) hv
      · have q1_2 := q
        clear q
        by_cases q : x = 3
        · refine sw_tsIn (tgt := 68) (dX8_count.at 1 rfl) hv.1 (by omega) (by omega) (by rw [q]; rfl) (by decide) ?_
          replace hv := hv.2.2.2.2.1 q
          refine sw_aload_n (dX8_count.at 14 rfl) rfl rfl ?_
          refine sw_getR (dX8_count.at 15 rfl) fp_X8_65 (S_lt 0 (by decide)) (S_0 nw nx g) rfl rfl ?_
          refine sw_getIE (w := ((gM P : Nat) : Int)) (dX8_count.at 16 rfl) fp_X8_116 (S_e_lt hnw) (S_e hnw) rfl (EL_M hE) ?_
          exact sw_iret (dX8_count.at 17 rfl) rfl (Nat.le_refl _) (Nat.le_refl _) hv
        · have q1_3 := q
          clear q
          by_cases q : x = 4
          · refine sw_tsIn (tgt := 76) (dX8_count.at 1 rfl) hv.1 (by omega) (by omega) (by rw [q]; rfl) (by decide) ?_
            replace hv := hv.2.2.2.2.2.1 q
            refine sw_aload_n (dX8_count.at 18 rfl) rfl rfl ?_
            refine sw_getI (dX8_count.at 19 rfl) fp_X8_72 (S_lt 0 (by decide)) (S_0 nw nx g) rfl ?_
            exact sw_iret (dX8_count.at 20 rfl) rfl (Nat.le_refl _) (Nat.le_refl _) hv
          · have q1_4 := q
            clear q
            by_cases q : x = 5
            · refine sw_tsIn (tgt := 81) (dX8_count.at 1 rfl) hv.1 (by omega) (by omega) (by rw [q]; rfl) (by decide) ?_
              replace hv := hv.2.2.2.2.2.2.1 q
              refine sw_aload_n (dX8_count.at 21 rfl) rfl rfl ?_
              refine sw_getR (dX8_count.at 22 rfl) fp_X8_54 (S_lt 0 (by decide)) (S_0 nw nx g) rfl rfl ?_
              refine sw_getI (dX8_count.at 23 rfl) fp_X8_119 (S_lt 15 (by decide)) (S_15 nw nx g) rfl ?_
              exact sw_iret (dX8_count.at 24 rfl) rfl (Nat.le_refl _) (Nat.le_refl _) hv
            · have q1_5 := q
              clear q
              by_cases q : x = 6
              · refine sw_tsIn (tgt := 89) (dX8_count.at 1 rfl) hv.1 (by omega) (by omega) (by rw [q]; rfl) (by decide) ?_
                replace hv := hv.2.2.2.2.2.2.2.1 q
                refine sw_aload_n (dX8_count.at 25 rfl) rfl rfl ?_
                refine sw_getR (dX8_count.at 26 rfl) fp_X8_10 (S_lt 0 (by decide)) (S_0 nw nx g) rfl rfl ?_
                refine sw_getI (dX8_count.at 27 rfl) fp_X8_76 (S_lt 1 (by decide)) (S_1 nw nx g) rfl ?_
                exact sw_iret (dX8_count.at 28 rfl) rfl (Nat.le_refl _) (Nat.le_refl _) hv
              · have q1_6 := q
                clear q
                have q : x < 0 ∨ 6 < x := by omega
                refine sw_tsOut (tgt := 97) (dX8_count.at 1 rfl) hv.1 q (by decide) ?_
                replace hv := hv.2.2.2.2.2.2.2.2 q
                refine sw_iconst (dX8_count.at 29 rfl) ?_
                exact sw_iret (dX8_count.at 30 rfl) rfl (Nat.le_refl _) (Nat.le_refl _) hv

set_option maxHeartbeats 4000000 in
theorem c_X8_count {G : GG} {j nw nx gn : Nat} {g : Nat → Sh} {c : Nat → Nat → Int} {post : Option AV → AM → Prop} {P : GD} {x : Int} (hnw : nw = 21 ∨ nw = 35) (hE : EL c nw P) (hV : GV P) (p1 : -2147483648 ≤ x ∧ x < 2147483648) (K : post (some (vi (q_count P (c 0 10) (c 15 5) (c 1 1) x))) (S nw nx g, 78 + gn, c)) : SM G (j + 2) mX8_count [vr 0, vi x] (S nw nx g, 78 + gn, c) 0 0 post := by
  refine sm_of wX8_count rfl (Nat.le_of_ble_eq_true rfl) ?_
  refine g_X8_count_0 hnw hE hV ?_
  have K1 : ∀ z : Int, z = q_count P (c 0 10) (c 15 5) (c 1 1) x → post (some (vi z)) (S nw nx g, 78 + gn, c) := fun z h => h ▸ K
  refine ⟨?_, fun q => ?_, fun q => ?_, fun q => ?_, fun q => ?_, fun q => ?_, fun q => ?_, fun q => ?_, fun q => ?_⟩
  all_goals first | omega | (refine K1 _ ?_; simp [q_count, q]; done) | (refine K1 _ ?_; have a0 : x ≠ 0 := (by omega); have a1 : x ≠ 1 := (by omega); have a2 : x ≠ 2 := (by omega); have a3 : x ≠ 3 := (by omega); have a4 : x ≠ 4 := (by omega); have a5 : x ≠ 5 := (by omega); have a6 : x ≠ 6 := (by omega); simp [q_count, a0, a1, a2, a3, a4, a5, a6]; done)

