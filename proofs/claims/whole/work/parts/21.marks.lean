/-- what the library counts; both sides ask it of the same set -/
def bcJ (z : Int) : Int := and32 ((((and64 (((and64 (z - (and64 (ushr64 z 1) 6148914691236517205)) 3689348814741910323) + (and64 (ushr64 (z - (and64 (ushr64 z 1) 6148914691236517205)) 2) 3689348814741910323)) + (ushr64 ((and64 (z - (and64 (ushr64 z 1) 6148914691236517205)) 3689348814741910323) + (and64 (ushr64 (z - (and64 (ushr64 z 1) 6148914691236517205)) 2) 3689348814741910323)) 4)) 1085102592571150095) + (ushr64 (and64 (((and64 (z - (and64 (ushr64 z 1) 6148914691236517205)) 3689348814741910323) + (and64 (ushr64 (z - (and64 (ushr64 z 1) 6148914691236517205)) 2) 3689348814741910323)) + (ushr64 ((and64 (z - (and64 (ushr64 z 1) 6148914691236517205)) 3689348814741910323) + (and64 (ushr64 (z - (and64 (ushr64 z 1) 6148914691236517205)) 2) 3689348814741910323)) 4)) 1085102592571150095) 8)) + (ushr64 ((and64 (((and64 (z - (and64 (ushr64 z 1) 6148914691236517205)) 3689348814741910323) + (and64 (ushr64 (z - (and64 (ushr64 z 1) 6148914691236517205)) 2) 3689348814741910323)) + (ushr64 ((and64 (z - (and64 (ushr64 z 1) 6148914691236517205)) 3689348814741910323) + (and64 (ushr64 (z - (and64 (ushr64 z 1) 6148914691236517205)) 2) 3689348814741910323)) 4)) 1085102592571150095) + (ushr64 (and64 (((and64 (z - (and64 (ushr64 z 1) 6148914691236517205)) 3689348814741910323) + (and64 (ushr64 (z - (and64 (ushr64 z 1) 6148914691236517205)) 2) 3689348814741910323)) + (ushr64 ((and64 (z - (and64 (ushr64 z 1) 6148914691236517205)) 3689348814741910323) + (and64 (ushr64 (z - (and64 (ushr64 z 1) 6148914691236517205)) 2) 3689348814741910323)) 4)) 1085102592571150095) 8)) 16)) + (ushr64 (((and64 (((and64 (z - (and64 (ushr64 z 1) 6148914691236517205)) 3689348814741910323) + (and64 (ushr64 (z - (and64 (ushr64 z 1) 6148914691236517205)) 2) 3689348814741910323)) + (ushr64 ((and64 (z - (and64 (ushr64 z 1) 6148914691236517205)) 3689348814741910323) + (and64 (ushr64 (z - (and64 (ushr64 z 1) 6148914691236517205)) 2) 3689348814741910323)) 4)) 1085102592571150095) + (ushr64 (and64 (((and64 (z - (and64 (ushr64 z 1) 6148914691236517205)) 3689348814741910323) + (and64 (ushr64 (z - (and64 (ushr64 z 1) 6148914691236517205)) 2) 3689348814741910323)) + (ushr64 ((and64 (z - (and64 (ushr64 z 1) 6148914691236517205)) 3689348814741910323) + (and64 (ushr64 (z - (and64 (ushr64 z 1) 6148914691236517205)) 2) 3689348814741910323)) 4)) 1085102592571150095) 8)) + (ushr64 ((and64 (((and64 (z - (and64 (ushr64 z 1) 6148914691236517205)) 3689348814741910323) + (and64 (ushr64 (z - (and64 (ushr64 z 1) 6148914691236517205)) 2) 3689348814741910323)) + (ushr64 ((and64 (z - (and64 (ushr64 z 1) 6148914691236517205)) 3689348814741910323) + (and64 (ushr64 (z - (and64 (ushr64 z 1) 6148914691236517205)) 2) 3689348814741910323)) 4)) 1085102592571150095) + (ushr64 (and64 (((and64 (z - (and64 (ushr64 z 1) 6148914691236517205)) 3689348814741910323) + (and64 (ushr64 (z - (and64 (ushr64 z 1) 6148914691236517205)) 2) 3689348814741910323)) + (ushr64 ((and64 (z - (and64 (ushr64 z 1) 6148914691236517205)) 3689348814741910323) + (and64 (ushr64 (z - (and64 (ushr64 z 1) 6148914691236517205)) 2) 3689348814741910323)) 4)) 1085102592571150095) 8)) 16)) 32)) 127
set_option maxHeartbeats 2000000 in
set_option maxRecDepth 20000 in
theorem g_J13_bitCount_95d88_0 {G : GG} {j nw nx gn : Nat} {g : Nat → Sh} {c : Nat → Nat → Int} {post : Option AV → AM → Prop} {z : Int}  (hv : post (some (vi (and32 ((((and64 (((and64 (z - (and64 (ushr64 z 1) 6148914691236517205)) 3689348814741910323) + (and64 (ushr64 (z - (and64 (ushr64 z 1) 6148914691236517205)) 2) 3689348814741910323)) + (ushr64 ((and64 (z - (and64 (ushr64 z 1) 6148914691236517205)) 3689348814741910323) + (and64 (ushr64 (z - (and64 (ushr64 z 1) 6148914691236517205)) 2) 3689348814741910323)) 4)) 1085102592571150095) + (ushr64 (and64 (((and64 (z - (and64 (ushr64 z 1) 6148914691236517205)) 3689348814741910323) + (and64 (ushr64 (z - (and64 (ushr64 z 1) 6148914691236517205)) 2) 3689348814741910323)) + (ushr64 ((and64 (z - (and64 (ushr64 z 1) 6148914691236517205)) 3689348814741910323) + (and64 (ushr64 (z - (and64 (ushr64 z 1) 6148914691236517205)) 2) 3689348814741910323)) 4)) 1085102592571150095) 8)) + (ushr64 ((and64 (((and64 (z - (and64 (ushr64 z 1) 6148914691236517205)) 3689348814741910323) + (and64 (ushr64 (z - (and64 (ushr64 z 1) 6148914691236517205)) 2) 3689348814741910323)) + (ushr64 ((and64 (z - (and64 (ushr64 z 1) 6148914691236517205)) 3689348814741910323) + (and64 (ushr64 (z - (and64 (ushr64 z 1) 6148914691236517205)) 2) 3689348814741910323)) 4)) 1085102592571150095) + (ushr64 (and64 (((and64 (z - (and64 (ushr64 z 1) 6148914691236517205)) 3689348814741910323) + (and64 (ushr64 (z - (and64 (ushr64 z 1) 6148914691236517205)) 2) 3689348814741910323)) + (ushr64 ((and64 (z - (and64 (ushr64 z 1) 6148914691236517205)) 3689348814741910323) + (and64 (ushr64 (z - (and64 (ushr64 z 1) 6148914691236517205)) 2) 3689348814741910323)) 4)) 1085102592571150095) 8)) 16)) + (ushr64 (((and64 (((and64 (z - (and64 (ushr64 z 1) 6148914691236517205)) 3689348814741910323) + (and64 (ushr64 (z - (and64 (ushr64 z 1) 6148914691236517205)) 2) 3689348814741910323)) + (ushr64 ((and64 (z - (and64 (ushr64 z 1) 6148914691236517205)) 3689348814741910323) + (and64 (ushr64 (z - (and64 (ushr64 z 1) 6148914691236517205)) 2) 3689348814741910323)) 4)) 1085102592571150095) + (ushr64 (and64 (((and64 (z - (and64 (ushr64 z 1) 6148914691236517205)) 3689348814741910323) + (and64 (ushr64 (z - (and64 (ushr64 z 1) 6148914691236517205)) 2) 3689348814741910323)) + (ushr64 ((and64 (z - (and64 (ushr64 z 1) 6148914691236517205)) 3689348814741910323) + (and64 (ushr64 (z - (and64 (ushr64 z 1) 6148914691236517205)) 2) 3689348814741910323)) 4)) 1085102592571150095) 8)) + (ushr64 ((and64 (((and64 (z - (and64 (ushr64 z 1) 6148914691236517205)) 3689348814741910323) + (and64 (ushr64 (z - (and64 (ushr64 z 1) 6148914691236517205)) 2) 3689348814741910323)) + (ushr64 ((and64 (z - (and64 (ushr64 z 1) 6148914691236517205)) 3689348814741910323) + (and64 (ushr64 (z - (and64 (ushr64 z 1) 6148914691236517205)) 2) 3689348814741910323)) 4)) 1085102592571150095) + (ushr64 (and64 (((and64 (z - (and64 (ushr64 z 1) 6148914691236517205)) 3689348814741910323) + (and64 (ushr64 (z - (and64 (ushr64 z 1) 6148914691236517205)) 2) 3689348814741910323)) + (ushr64 ((and64 (z - (and64 (ushr64 z 1) 6148914691236517205)) 3689348814741910323) + (and64 (ushr64 (z - (and64 (ushr64 z 1) 6148914691236517205)) 2) 3689348814741910323)) 4)) 1085102592571150095) 8)) 16)) 32)) 127))) (S nw nx g, 78 + gn, c)) :
    SW G (j + 0) mJ13_bitCount_95d88 0 [some (vl (z)), none] [] (S nw nx g, 78 + gn, c) B0 post := by
  refine sw_lload_n (dJ13_bitCount_95d88.at 0 rfl) rfl rfl ?_
  refine sw_lload_n (dJ13_bitCount_95d88.at 1 rfl) rfl rfl ?_
  refine sw_iconst (dJ13_bitCount_95d88.at 2 rfl) ?_
  refine sw_lushr (dJ13_bitCount_95d88.at 3 rfl) ?_
  refine sw_ldc2 (z := 6148914691236517205) (dJ13_bitCount_95d88.at 4 rfl) kc_J13_314 (by decide) ?_
  refine sw_land (dJ13_bitCount_95d88.at 5 rfl) ?_
  refine sw_lsub (dJ13_bitCount_95d88.at 6 rfl) ?_
  refine sw_lstore_n (lo' := [some (vl (z - (and64 (ushr64 z 1) 6148914691236517205))), none]) (dJ13_bitCount_95d88.at 7 rfl) rfl (by decide) rfl ?_
  refine sw_lload_n (dJ13_bitCount_95d88.at 8 rfl) rfl rfl ?_
  refine sw_ldc2 (z := 3689348814741910323) (dJ13_bitCount_95d88.at 9 rfl) kc_J13_316 (by decide) ?_
  refine sw_land (dJ13_bitCount_95d88.at 10 rfl) ?_
  refine sw_lload_n (dJ13_bitCount_95d88.at 11 rfl) rfl rfl ?_
  refine sw_iconst (dJ13_bitCount_95d88.at 12 rfl) ?_
  refine sw_lushr (dJ13_bitCount_95d88.at 13 rfl) ?_
  refine sw_ldc2 (z := 3689348814741910323) (dJ13_bitCount_95d88.at 14 rfl) kc_J13_316 (by decide) ?_
  refine sw_land (dJ13_bitCount_95d88.at 15 rfl) ?_
  refine sw_ladd (dJ13_bitCount_95d88.at 16 rfl) ?_
  refine sw_lstore_n (lo' := [some (vl ((and64 (z - (and64 (ushr64 z 1) 6148914691236517205)) 3689348814741910323) + (and64 (ushr64 (z - (and64 (ushr64 z 1) 6148914691236517205)) 2) 3689348814741910323))), none]) (dJ13_bitCount_95d88.at 17 rfl) rfl (by decide) rfl ?_
  refine sw_lload_n (dJ13_bitCount_95d88.at 18 rfl) rfl rfl ?_
  refine sw_lload_n (dJ13_bitCount_95d88.at 19 rfl) rfl rfl ?_
  refine sw_iconst (dJ13_bitCount_95d88.at 20 rfl) ?_
  refine sw_lushr (dJ13_bitCount_95d88.at 21 rfl) ?_
  refine sw_ladd (dJ13_bitCount_95d88.at 22 rfl) ?_
  refine sw_ldc2 (z := 1085102592571150095) (dJ13_bitCount_95d88.at 23 rfl) kc_J13_318 (by decide) ?_
  refine sw_land (dJ13_bitCount_95d88.at 24 rfl) ?_
  refine sw_lstore_n (lo' := [some (vl (and64 (((and64 (z - (and64 (ushr64 z 1) 6148914691236517205)) 3689348814741910323) + (and64 (ushr64 (z - (and64 (ushr64 z 1) 6148914691236517205)) 2) 3689348814741910323)) + (ushr64 ((and64 (z - (and64 (ushr64 z 1) 6148914691236517205)) 3689348814741910323) + (and64 (ushr64 (z - (and64 (ushr64 z 1) 6148914691236517205)) 2) 3689348814741910323)) 4)) 1085102592571150095)), none]) (dJ13_bitCount_95d88.at 25 rfl) rfl (by decide) rfl ?_
  refine sw_lload_n (dJ13_bitCount_95d88.at 26 rfl) rfl rfl ?_
  refine sw_lload_n (dJ13_bitCount_95d88.at 27 rfl) rfl rfl ?_
  refine sw_bipush (dJ13_bitCount_95d88.at 28 rfl) (by decide) ?_
  refine sw_lushr (dJ13_bitCount_95d88.at 29 rfl) ?_
  refine sw_ladd (dJ13_bitCount_95d88.at 30 rfl) ?_
  refine sw_lstore_n (lo' := [some (vl ((and64 (((and64 (z - (and64 (ushr64 z 1) 6148914691236517205)) 3689348814741910323) + (and64 (ushr64 (z - (and64 (ushr64 z 1) 6148914691236517205)) 2) 3689348814741910323)) + (ushr64 ((and64 (z - (and64 (ushr64 z 1) 6148914691236517205)) 3689348814741910323) + (and64 (ushr64 (z - (and64 (ushr64 z 1) 6148914691236517205)) 2) 3689348814741910323)) 4)) 1085102592571150095) + (ushr64 (and64 (((and64 (z - (and64 (ushr64 z 1) 6148914691236517205)) 3689348814741910323) + (and64 (ushr64 (z - (and64 (ushr64 z 1) 6148914691236517205)) 2) 3689348814741910323)) + (ushr64 ((and64 (z - (and64 (ushr64 z 1) 6148914691236517205)) 3689348814741910323) + (and64 (ushr64 (z - (and64 (ushr64 z 1) 6148914691236517205)) 2) 3689348814741910323)) 4)) 1085102592571150095) 8))), none]) (dJ13_bitCount_95d88.at 31 rfl) rfl (by decide) rfl ?_
  refine sw_lload_n (dJ13_bitCount_95d88.at 32 rfl) rfl rfl ?_
  refine sw_lload_n (dJ13_bitCount_95d88.at 33 rfl) rfl rfl ?_
  refine sw_bipush (dJ13_bitCount_95d88.at 34 rfl) (by decide) ?_
  refine sw_lushr (dJ13_bitCount_95d88.at 35 rfl) ?_
  refine sw_ladd (dJ13_bitCount_95d88.at 36 rfl) ?_
  refine sw_lstore_n (lo' := [some (vl (((and64 (((and64 (z - (and64 (ushr64 z 1) 6148914691236517205)) 3689348814741910323) + (and64 (ushr64 (z - (and64 (ushr64 z 1) 6148914691236517205)) 2) 3689348814741910323)) + (ushr64 ((and64 (z - (and64 (ushr64 z 1) 6148914691236517205)) 3689348814741910323) + (and64 (ushr64 (z - (and64 (ushr64 z 1) 6148914691236517205)) 2) 3689348814741910323)) 4)) 1085102592571150095) + (ushr64 (and64 (((and64 (z - (and64 (ushr64 z 1) 6148914691236517205)) 3689348814741910323) + (and64 (ushr64 (z - (and64 (ushr64 z 1) 6148914691236517205)) 2) 3689348814741910323)) + (ushr64 ((and64 (z - (and64 (ushr64 z 1) 6148914691236517205)) 3689348814741910323) + (and64 (ushr64 (z - (and64 (ushr64 z 1) 6148914691236517205)) 2) 3689348814741910323)) 4)) 1085102592571150095) 8)) + (ushr64 ((and64 (((and64 (z - (and64 (ushr64 z 1) 6148914691236517205)) 3689348814741910323) + (and64 (ushr64 (z - (and64 (ushr64 z 1) 6148914691236517205)) 2) 3689348814741910323)) + (ushr64 ((and64 (z - (and64 (ushr64 z 1) 6148914691236517205)) 3689348814741910323) + (and64 (ushr64 (z - (and64 (ushr64 z 1) 6148914691236517205)) 2) 3689348814741910323)) 4)) 1085102592571150095) + (ushr64 (and64 (((and64 (z - (and64 (ushr64 z 1) 6148914691236517205)) 3689348814741910323) + (and64 (ushr64 (z - (and64 (ushr64 z 1) 6148914691236517205)) 2) 3689348814741910323)) + (ushr64 ((and64 (z - (and64 (ushr64 z 1) 6148914691236517205)) 3689348814741910323) + (and64 (ushr64 (z - (and64 (ushr64 z 1) 6148914691236517205)) 2) 3689348814741910323)) 4)) 1085102592571150095) 8)) 16))), none]) (dJ13_bitCount_95d88.at 37 rfl) rfl (by decide) rfl ?_
  refine sw_lload_n (dJ13_bitCount_95d88.at 38 rfl) rfl rfl ?_
  refine sw_lload_n (dJ13_bitCount_95d88.at 39 rfl) rfl rfl ?_
  refine sw_bipush (dJ13_bitCount_95d88.at 40 rfl) (by decide) ?_
  refine sw_lushr (dJ13_bitCount_95d88.at 41 rfl) ?_
  refine sw_ladd (dJ13_bitCount_95d88.at 42 rfl) ?_
  refine sw_lstore_n (lo' := [some (vl ((((and64 (((and64 (z - (and64 (ushr64 z 1) 6148914691236517205)) 3689348814741910323) + (and64 (ushr64 (z - (and64 (ushr64 z 1) 6148914691236517205)) 2) 3689348814741910323)) + (ushr64 ((and64 (z - (and64 (ushr64 z 1) 6148914691236517205)) 3689348814741910323) + (and64 (ushr64 (z - (and64 (ushr64 z 1) 6148914691236517205)) 2) 3689348814741910323)) 4)) 1085102592571150095) + (ushr64 (and64 (((and64 (z - (and64 (ushr64 z 1) 6148914691236517205)) 3689348814741910323) + (and64 (ushr64 (z - (and64 (ushr64 z 1) 6148914691236517205)) 2) 3689348814741910323)) + (ushr64 ((and64 (z - (and64 (ushr64 z 1) 6148914691236517205)) 3689348814741910323) + (and64 (ushr64 (z - (and64 (ushr64 z 1) 6148914691236517205)) 2) 3689348814741910323)) 4)) 1085102592571150095) 8)) + (ushr64 ((and64 (((and64 (z - (and64 (ushr64 z 1) 6148914691236517205)) 3689348814741910323) + (and64 (ushr64 (z - (and64 (ushr64 z 1) 6148914691236517205)) 2) 3689348814741910323)) + (ushr64 ((and64 (z - (and64 (ushr64 z 1) 6148914691236517205)) 3689348814741910323) + (and64 (ushr64 (z - (and64 (ushr64 z 1) 6148914691236517205)) 2) 3689348814741910323)) 4)) 1085102592571150095) + (ushr64 (and64 (((and64 (z - (and64 (ushr64 z 1) 6148914691236517205)) 3689348814741910323) + (and64 (ushr64 (z - (and64 (ushr64 z 1) 6148914691236517205)) 2) 3689348814741910323)) + (ushr64 ((and64 (z - (and64 (ushr64 z 1) 6148914691236517205)) 3689348814741910323) + (and64 (ushr64 (z - (and64 (ushr64 z 1) 6148914691236517205)) 2) 3689348814741910323)) 4)) 1085102592571150095) 8)) 16)) + (ushr64 (((and64 (((and64 (z - (and64 (ushr64 z 1) 6148914691236517205)) 3689348814741910323) + (and64 (ushr64 (z - (and64 (ushr64 z 1) 6148914691236517205)) 2) 3689348814741910323)) + (ushr64 ((and64 (z - (and64 (ushr64 z 1) 6148914691236517205)) 3689348814741910323) + (and64 (ushr64 (z - (and64 (ushr64 z 1) 6148914691236517205)) 2) 3689348814741910323)) 4)) 1085102592571150095) + (ushr64 (and64 (((and64 (z - (and64 (ushr64 z 1) 6148914691236517205)) 3689348814741910323) + (and64 (ushr64 (z - (and64 (ushr64 z 1) 6148914691236517205)) 2) 3689348814741910323)) + (ushr64 ((and64 (z - (and64 (ushr64 z 1) 6148914691236517205)) 3689348814741910323) + (and64 (ushr64 (z - (and64 (ushr64 z 1) 6148914691236517205)) 2) 3689348814741910323)) 4)) 1085102592571150095) 8)) + (ushr64 ((and64 (((and64 (z - (and64 (ushr64 z 1) 6148914691236517205)) 3689348814741910323) + (and64 (ushr64 (z - (and64 (ushr64 z 1) 6148914691236517205)) 2) 3689348814741910323)) + (ushr64 ((and64 (z - (and64 (ushr64 z 1) 6148914691236517205)) 3689348814741910323) + (and64 (ushr64 (z - (and64 (ushr64 z 1) 6148914691236517205)) 2) 3689348814741910323)) 4)) 1085102592571150095) + (ushr64 (and64 (((and64 (z - (and64 (ushr64 z 1) 6148914691236517205)) 3689348814741910323) + (and64 (ushr64 (z - (and64 (ushr64 z 1) 6148914691236517205)) 2) 3689348814741910323)) + (ushr64 ((and64 (z - (and64 (ushr64 z 1) 6148914691236517205)) 3689348814741910323) + (and64 (ushr64 (z - (and64 (ushr64 z 1) 6148914691236517205)) 2) 3689348814741910323)) 4)) 1085102592571150095) 8)) 16)) 32))), none]) (dJ13_bitCount_95d88.at 43 rfl) rfl (by decide) rfl ?_
  refine sw_lload_n (dJ13_bitCount_95d88.at 44 rfl) rfl rfl ?_
  refine sw_l2i (dJ13_bitCount_95d88.at 45 rfl) ?_
  refine sw_bipush (dJ13_bitCount_95d88.at 46 rfl) (by decide) ?_
  refine sw_iand (dJ13_bitCount_95d88.at 47 rfl) ?_
  exact sw_iret (dJ13_bitCount_95d88.at 48 rfl) rfl (Nat.le_refl _) (Nat.le_refl _) hv

set_option maxHeartbeats 2000000 in
theorem c_J13_bitCount_95d88 {G : GG} {j nw nx gn : Nat} {g : Nat → Sh} {c : Nat → Nat → Int} {post : Option AV → AM → Prop} {z : Int} (K : post (some (vi (bcJ z))) (S nw nx g, 78 + gn, c)) : SM G (j + 1) mJ13_bitCount_95d88 [vl (z)] (S nw nx g, 78 + gn, c) 0 0 post := by
  refine sm_of wJ13_bitCount_95d88 rfl (Nat.le_of_ble_eq_true rfl) ?_
  refine g_J13_bitCount_95d88_0  ?_
  exact K

set_option maxHeartbeats 2000000 in
set_option maxRecDepth 20000 in
theorem g_X3_act_0 {G : GG} {j nw nx gn : Nat} {g : Nat → Sh} {c : Nat → Nat → Int} {post : Option AV → AM → Prop} {w : Int} {A : Nat} (hA : c 15 5 = ((A : Nat) : Int))  (hv : (A < 2147483648) ∧ (((A < 30) → (A < 30) ∧ (post (some (vi (1))) (S nw nx g, 78 + gn, (up2 (up2 (up2 c 16 A (c 15 4)) 15 5 ((A + 1 : Nat) : Int)) 15 4 w)))) ∧ ((¬ (A < 30)) → post (some (vi (0))) (S nw nx g, 78 + gn, c)))) :
    SW G (j + 0) mX3_act 0 [some (vr (15)), some (vl (w)), none] [] (S nw nx g, 78 + gn, c) B0 post := by
  refine sw_aload_n (dX3_act.at 0 rfl) rfl rfl ?_
  refine sw_getIE (w := ((A : Nat) : Int)) (dX3_act.at 1 rfl) fp_X3_32 (S_lt 15 (by decide)) (S_15 nw nx g) rfl hA ?_
  refine sw_bipush (dX3_act.at 2 rfl) (by decide) ?_
  refine sw_icmpN_lt A 30 (tgt := 11) (dX3_act.at 3 rfl) (by decide) hv.1 (by decide) (fun q => ?_) (fun q => ?_)
  · replace hv := hv.2.1 q
    refine sw_aload_n (dX3_act.at 6 rfl) rfl rfl ?_
    refine sw_getR (dX3_act.at 7 rfl) fp_X3_9 (S_lt 15 (by decide)) (S_15 nw nx g) rfl rfl ?_
    refine sw_aload_n (dX3_act.at 8 rfl) rfl rfl ?_
    refine sw_getIE (w := ((A : Nat) : Int)) (dX3_act.at 9 rfl) fp_X3_32 (S_lt 15 (by decide)) (S_15 nw nx g) rfl hA ?_
    refine sw_aload_n (dX3_act.at 10 rfl) rfl rfl ?_
    refine sw_getL (dX3_act.at 11 rfl) fp_X3_28 (S_lt 15 (by decide)) (S_15 nw nx g) rfl ?_
    refine sw_lastN A (dX3_act.at 12 rfl) (S_lt 16 (by decide)) (S_16 nw nx g) (by decide) hv.1 ?_
    replace hv := hv.2
    refine sw_aload_n (dX3_act.at 13 rfl) rfl rfl ?_
    refine sw_dup (dX3_act.at 14 rfl) (fun _ h => by cases h) ?_
    refine sw_getIE (w := ((A : Nat) : Int)) (dX3_act.at 15 rfl) fp_X3_32 (S_lt 15 (by decide)) (S_15 nw nx g) rfl ((up2_ne (c := c) (i := 16) (k := A) (z := (c 15 4)) (i' := 15) (k' := 5) (Or.inl (by decide))).trans hA) ?_
    refine sw_iconst (dX3_act.at 16 rfl) ?_
    refine sw_iadd (dX3_act.at 17 rfl) ?_
    refine sw_topI (y := ((A + 1 : Nat) : Int)) (by first | rfl | (congr 1)) ?_
    refine sw_putI (dX3_act.at 18 rfl) fp_X3_32 (S_lt 15 (by decide)) (S_15 nw nx g) rfl ?_
    refine sw_aload_n (dX3_act.at 19 rfl) rfl rfl ?_
    refine sw_lload_n (dX3_act.at 20 rfl) rfl rfl ?_
    refine sw_putL (dX3_act.at 21 rfl) fp_X3_28 (S_lt 15 (by decide)) (S_15 nw nx g) rfl ?_
    refine sw_iconst (dX3_act.at 22 rfl) ?_
    exact sw_zret (dX3_act.at 23 rfl) rfl (by decide) (Nat.le_refl _) (Nat.le_refl _) hv
  · replace hv := hv.2.2 q
    refine sw_iconst (dX3_act.at 4 rfl) ?_
    exact sw_zret (dX3_act.at 5 rfl) rfl (by decide) (Nat.le_refl _) (Nat.le_refl _) hv

set_option maxHeartbeats 2000000 in
theorem c_X3_actN {G : GG} {j nw nx gn : Nat} {g : Nat → Sh} {c : Nat → Nat → Int} {post : Option AV → AM → Prop} {A : Nat} {w : Int} (hA : c 15 5 = ((A : Nat) : Int)) (p1 : ¬ A < 30) (p2 : A ≤ 30) (K : post (some (vi (bz (false)))) (S nw nx g, 78 + gn, c)) : SM G (j + 1) mX3_act [vr (15), vl (w)] (S nw nx g, 78 + gn, c) 0 0 post := by
  refine sm_of wX3_act rfl (Nat.le_of_ble_eq_true rfl) ?_
  refine g_X3_act_0 hA ?_
  refine ⟨?_, ⟨fun q => ⟨?_, ?_⟩, fun q => ?_⟩⟩
  all_goals first | exact K | omega | (exfalso; omega)

set_option maxHeartbeats 2000000 in
theorem c_X3_actY {G : GG} {j nw nx gn : Nat} {g : Nat → Sh} {c : Nat → Nat → Int} {post : Option AV → AM → Prop} {A : Nat} {w : Int} (hA : c 15 5 = ((A : Nat) : Int)) (p1 : A < 30) (K : post (some (vi (bz (true)))) (S nw nx g, 78 + gn, (up2 (up2 (up2 c 16 A (c 15 4)) 15 5 ((A + 1 : Nat) : Int)) 15 4 w))) : SM G (j + 1) mX3_act [vr (15), vl (w)] (S nw nx g, 78 + gn, c) 0 0 post := by
  refine sm_of wX3_act rfl (Nat.le_of_ble_eq_true rfl) ?_
  refine g_X3_act_0 hA ?_
  refine ⟨?_, ⟨fun q => ⟨?_, ?_⟩, fun q => ?_⟩⟩
  all_goals first | exact K | omega | (exfalso; omega)

def q_ideal (P : GD) (T : Nat) : Int := if gN P = 0 then -2 else ((gAb P T (gN P) : Nat) : Int)
def q_peaks (P : GD) (T : Nat) : Int := if gN P = 0 then -2 else ((gTp P (gAb P T (gN P)) : Nat) : Int)
def q_marked (P : GD) (T : Nat) : Int := if gN P = 0 then -2 else ((T : Nat) : Int)
set_option maxHeartbeats 2000000 in
set_option maxRecDepth 20000 in
theorem g_X8_ideal_0 {G : GG} {j nw nx gn : Nat} {g : Nat → Sh} {c : Nat → Nat → Int} {post : Option AV → AM → Prop} {P : GD} {T : Nat} {A : Nat} (hnw : nw = 21 ∨ nw = 35) (hE : EL c nw P) (hV : GV P) (hT : c 15 4 = ((T : Nat) : Int)) (hA : c 15 5 = ((A : Nat) : Int))  (hv : (gN P < 2147483648) ∧ (((gN P ≠ 0) → (T < 2 ^ 60) ∧ (post (some (vl (((gAb P T (gN P) : Nat) : Int)))) (S nw nx g, 78 + gn, c))) ∧ ((gN P = 0) → post (some (vl ((-2)))) (S nw nx g, 78 + gn, c)))) :
    SW G (j + 2) mX8_ideal 0 [some (vr (0))] [] (S nw nx g, 78 + gn, c) B0 post := by
  refine sw_aload_n (dX8_ideal.at 0 rfl) rfl rfl ?_
  refine sw_getR (dX8_ideal.at 1 rfl) fp_X8_65 (S_lt 0 (by decide)) (S_0 nw nx g) rfl rfl ?_
  refine sw_getIE (w := ((gN P : Nat) : Int)) (dX8_ideal.at 2 rfl) fp_X8_103 (S_e_lt hnw) (S_e hnw) rfl (EL_N hE) ?_
  refine sw_ifN_ne (gN P) (tgt := 16) (dX8_ideal.at 3 rfl) (by decide) hv.1 (fun q => ?_) (fun q => ?_)
  · replace hv := hv.2.1 q
    refine sw_aload_n (dX8_ideal.at 6 rfl) rfl rfl ?_
    refine sw_aload_n (dX8_ideal.at 7 rfl) rfl rfl ?_
    refine sw_getR (dX8_ideal.at 8 rfl) fp_X8_54 (S_lt 0 (by decide)) (S_0 nw nx g) rfl rfl ?_
    refine sw_getLE (w := ((T : Nat) : Int)) (dX8_ideal.at 9 rfl) fp_X8_301 (S_lt 15 (by decide)) (S_15 nw nx g) rfl hT ?_
    refine sw_callV (B' := B0) (As := [vl (((T : Nat) : Int))]) (mc := 0) (ms := 0) (dX8_ideal.at 10 rfl) lk_X8_305 (S_lt 0 (by decide)) (S_0 nw nx g) rfl rfl (Nat.le_of_ble_eq_true rfl) rfl (Nat.le_refl _) (Nat.le_refl _) ?_
    refine c_X8_allBelow (T := T) (j := j + 0) hnw hE hV hv.1 ?_
    replace hv := hv.2
    exact sw_lret (dX8_ideal.at 11 rfl) rfl (Nat.le_refl _) (Nat.le_refl _) hv
  · replace hv := hv.2.2 q
    refine sw_ldc2 (z := (-2)) (dX8_ideal.at 4 rfl) kc_X8_147 (by decide) ?_
    refine sw_goto (tgt := 27) (dX8_ideal.at 5 rfl) (by decide) ?_
    exact sw_lret (dX8_ideal.at 11 rfl) rfl (Nat.le_refl _) (Nat.le_refl _) hv

set_option maxHeartbeats 2000000 in
theorem c_X8_ideal {G : GG} {j nw nx gn : Nat} {g : Nat → Sh} {c : Nat → Nat → Int} {post : Option AV → AM → Prop} {P : GD} {T : Nat} {A : Nat} (hnw : nw = 21 ∨ nw = 35) (hE : EL c nw P) (hV : GV P) (hT : c 15 4 = ((T : Nat) : Int)) (hA : c 15 5 = ((A : Nat) : Int)) (p1 : T < 2 ^ 60) (K : post (some (vl (q_ideal P T))) (S nw nx g, 78 + gn, c)) : SM G (j + 3) mX8_ideal [vr (0)] (S nw nx g, 78 + gn, c) 0 0 post := by
  refine sm_of wX8_ideal rfl (Nat.le_of_ble_eq_true rfl) ?_
  refine g_X8_ideal_0 hnw hE hV hT hA ?_
  have := GV_N hV
  have K1 : ∀ z : Int, z = q_ideal P T → post (some (vl z)) (S nw nx g, 78 + gn, c) := fun z h => h ▸ K
  have hg := gAb_lt hV (T := T) (gN P) (Nat.le_refl _)
  refine ⟨?_, ⟨fun q => ⟨?_, ?_⟩, fun q => ?_⟩⟩
  all_goals first | omega | assumption | (refine K1 _ ?_; simp [q_ideal, *]; done)

set_option maxHeartbeats 2000000 in
set_option maxRecDepth 20000 in
theorem g_X8_peaks_0 {G : GG} {j nw nx gn : Nat} {g : Nat → Sh} {c : Nat → Nat → Int} {post : Option AV → AM → Prop} {P : GD} {T : Nat} {A : Nat} (hnw : nw = 21 ∨ nw = 35) (hE : EL c nw P) (hV : GV P) (hT : c 15 4 = ((T : Nat) : Int)) (hA : c 15 5 = ((A : Nat) : Int))  (hv : (gN P < 2147483648) ∧ (((gN P ≠ 0) → (T < 2 ^ 60) ∧ (((gAb P T (gN P)) < 2 ^ 60) ∧ (post (some (vl (((gTp P (gAb P T (gN P)) : Nat) : Int)))) (S nw nx g, 78 + gn, c)))) ∧ ((gN P = 0) → post (some (vl ((-2)))) (S nw nx g, 78 + gn, c)))) :
    SW G (j + 2) mX8_peaks 0 [some (vr (0))] [] (S nw nx g, 78 + gn, c) B0 post := by
  refine sw_aload_n (dX8_peaks.at 0 rfl) rfl rfl ?_
  refine sw_getR (dX8_peaks.at 1 rfl) fp_X8_65 (S_lt 0 (by decide)) (S_0 nw nx g) rfl rfl ?_
  refine sw_getIE (w := ((gN P : Nat) : Int)) (dX8_peaks.at 2 rfl) fp_X8_103 (S_e_lt hnw) (S_e hnw) rfl (EL_N hE) ?_
  refine sw_ifN_ne (gN P) (tgt := 16) (dX8_peaks.at 3 rfl) (by decide) hv.1 (fun q => ?_) (fun q => ?_)
  · replace hv := hv.2.1 q
    refine sw_aload_n (dX8_peaks.at 6 rfl) rfl rfl ?_
    refine sw_aload_n (dX8_peaks.at 7 rfl) rfl rfl ?_
    refine sw_aload_n (dX8_peaks.at 8 rfl) rfl rfl ?_
    refine sw_getR (dX8_peaks.at 9 rfl) fp_X8_54 (S_lt 0 (by decide)) (S_0 nw nx g) rfl rfl ?_
    refine sw_getLE (w := ((T : Nat) : Int)) (dX8_peaks.at 10 rfl) fp_X8_301 (S_lt 15 (by decide)) (S_15 nw nx g) rfl hT ?_
    refine sw_callV (B' := B0) (As := [vl (((T : Nat) : Int))]) (mc := 0) (ms := 0) (dX8_peaks.at 11 rfl) lk_X8_305 (S_lt 0 (by decide)) (S_0 nw nx g) rfl rfl (Nat.le_of_ble_eq_true rfl) rfl (Nat.le_refl _) (Nat.le_refl _) ?_
    refine c_X8_allBelow (T := T) (j := j + 0) hnw hE hV hv.1 ?_
    replace hv := hv.2
    refine sw_callV (B' := B0) (As := [vl (((gAb P T (gN P) : Nat) : Int))]) (mc := 0) (ms := 0) (dX8_peaks.at 12 rfl) lk_X8_309 (S_lt 0 (by decide)) (S_0 nw nx g) rfl rfl (Nat.le_of_ble_eq_true rfl) rfl (Nat.le_refl _) (Nat.le_refl _) ?_
    refine c_X8_topmost (T := (gAb P T (gN P))) (j := j + 0) hnw hE hV hv.1 ?_
    replace hv := hv.2
    exact sw_lret (dX8_peaks.at 13 rfl) rfl (Nat.le_refl _) (Nat.le_refl _) hv
  · replace hv := hv.2.2 q
    refine sw_ldc2 (z := (-2)) (dX8_peaks.at 4 rfl) kc_X8_147 (by decide) ?_
    refine sw_goto (tgt := 31) (dX8_peaks.at 5 rfl) (by decide) ?_
    exact sw_lret (dX8_peaks.at 13 rfl) rfl (Nat.le_refl _) (Nat.le_refl _) hv

set_option maxHeartbeats 2000000 in
theorem c_X8_peaks {G : GG} {j nw nx gn : Nat} {g : Nat → Sh} {c : Nat → Nat → Int} {post : Option AV → AM → Prop} {P : GD} {T : Nat} {A : Nat} (hnw : nw = 21 ∨ nw = 35) (hE : EL c nw P) (hV : GV P) (hT : c 15 4 = ((T : Nat) : Int)) (hA : c 15 5 = ((A : Nat) : Int)) (p1 : T < 2 ^ 60) (K : post (some (vl (q_peaks P T))) (S nw nx g, 78 + gn, c)) : SM G (j + 3) mX8_peaks [vr (0)] (S nw nx g, 78 + gn, c) 0 0 post := by
  refine sm_of wX8_peaks rfl (Nat.le_of_ble_eq_true rfl) ?_
  refine g_X8_peaks_0 hnw hE hV hT hA ?_
  have := GV_N hV
  have K1 : ∀ z : Int, z = q_peaks P T → post (some (vl z)) (S nw nx g, 78 + gn, c) := fun z h => h ▸ K
  have hg := gAb_lt hV (T := T) (gN P) (Nat.le_refl _)
  refine ⟨?_, ⟨fun q => ⟨?_, ⟨?_, ?_⟩⟩, fun q => ?_⟩⟩
  all_goals first | omega | assumption | (refine K1 _ ?_; simp [q_peaks, *]; done)

set_option maxHeartbeats 2000000 in
set_option maxRecDepth 20000 in
theorem g_X8_marked_0 {G : GG} {j nw nx gn : Nat} {g : Nat → Sh} {c : Nat → Nat → Int} {post : Option AV → AM → Prop} {P : GD} {T : Nat} {A : Nat} (hnw : nw = 21 ∨ nw = 35) (hE : EL c nw P) (hV : GV P) (hT : c 15 4 = ((T : Nat) : Int)) (hA : c 15 5 = ((A : Nat) : Int))  (hv : (gN P < 2147483648) ∧ (((gN P ≠ 0) → post (some (vl (((T : Nat) : Int)))) (S nw nx g, 78 + gn, c)) ∧ ((gN P = 0) → post (some (vl ((-2)))) (S nw nx g, 78 + gn, c)))) :
    SW G (j + 0) mX8_marked 0 [some (vr (0))] [] (S nw nx g, 78 + gn, c) B0 post := by
  refine sw_aload_n (dX8_marked.at 0 rfl) rfl rfl ?_
  refine sw_getR (dX8_marked.at 1 rfl) fp_X8_65 (S_lt 0 (by decide)) (S_0 nw nx g) rfl rfl ?_
  refine sw_getIE (w := ((gN P : Nat) : Int)) (dX8_marked.at 2 rfl) fp_X8_103 (S_e_lt hnw) (S_e hnw) rfl (EL_N hE) ?_
  refine sw_ifN_ne (gN P) (tgt := 16) (dX8_marked.at 3 rfl) (by decide) hv.1 (fun q => ?_) (fun q => ?_)
  · replace hv := hv.2.1 q
    refine sw_aload_n (dX8_marked.at 6 rfl) rfl rfl ?_
    refine sw_getR (dX8_marked.at 7 rfl) fp_X8_54 (S_lt 0 (by decide)) (S_0 nw nx g) rfl rfl ?_
    refine sw_getLE (w := ((T : Nat) : Int)) (dX8_marked.at 8 rfl) fp_X8_301 (S_lt 15 (by decide)) (S_15 nw nx g) rfl hT ?_
    exact sw_lret (dX8_marked.at 9 rfl) rfl (Nat.le_refl _) (Nat.le_refl _) hv
  · replace hv := hv.2.2 q
    refine sw_ldc2 (z := (-2)) (dX8_marked.at 4 rfl) kc_X8_147 (by decide) ?_
    refine sw_goto (tgt := 23) (dX8_marked.at 5 rfl) (by decide) ?_
    exact sw_lret (dX8_marked.at 9 rfl) rfl (Nat.le_refl _) (Nat.le_refl _) hv

set_option maxHeartbeats 2000000 in
theorem c_X8_marked {G : GG} {j nw nx gn : Nat} {g : Nat → Sh} {c : Nat → Nat → Int} {post : Option AV → AM → Prop} {P : GD} {T : Nat} {A : Nat} (hnw : nw = 21 ∨ nw = 35) (hE : EL c nw P) (hV : GV P) (hT : c 15 4 = ((T : Nat) : Int)) (hA : c 15 5 = ((A : Nat) : Int)) (p1 : T < 2 ^ 60) (K : post (some (vl (q_marked P T))) (S nw nx g, 78 + gn, c)) : SM G (j + 1) mX8_marked [vr (0)] (S nw nx g, 78 + gn, c) 0 0 post := by
  refine sm_of wX8_marked rfl (Nat.le_of_ble_eq_true rfl) ?_
  refine g_X8_marked_0 hnw hE hV hT hA ?_
  have := GV_N hV
  have K1 : ∀ z : Int, z = q_marked P T → post (some (vl z)) (S nw nx g, 78 + gn, c) := fun z h => h ▸ K
  have hg := gAb_lt hV (T := T) (gN P) (Nat.le_refl _)
  refine ⟨?_, ⟨fun q => ?_, fun q => ?_⟩⟩
  all_goals first | omega | assumption | (refine K1 _ ?_; simp [q_marked, *]; done)

set_option maxHeartbeats 2000000 in
set_option maxRecDepth 20000 in
theorem g_X8_mark_0no {G : GG} {j nw nx gn : Nat} {g : Nat → Sh} {c : Nat → Nat → Int} {post : Option AV → AM → Prop} {x : Nat} {P : GD} {T : Nat} {A : Nat} (hnw : nw = 21 ∨ nw = 35) (hE : EL c nw P) (hV : GV P) (hT : c 15 4 = ((T : Nat) : Int)) (hA : c 15 5 = ((A : Nat) : Int))  (hv : (-2147483648 ≤ ((x : Nat) : Int) ∧ ((x : Nat) : Int) < 2147483648) ∧ ((((decide (0 ≤ ((x : Nat) : Int) ∧ ((x : Nat) : Int) < (gN P : Int))) = true) → (x < 64) ∧ ((¬ A < 30) ∧ (A ≤ 30) ∧ (post (some (vi ((-5)))) (S nw nx g, 78 + gn, c)))) ∧ (((decide (0 ≤ ((x : Nat) : Int) ∧ ((x : Nat) : Int) < (gN P : Int))) = false) → post (some (vi ((-2)))) (S nw nx g, 78 + gn, c)))) :
    SW G (j + 1) mX8_mark 0 [some (vr (0)), some (vi (((x : Nat) : Int)))] [] (S nw nx g, 78 + gn, c) B0 post := by
  refine sw_aload_n (dX8_mark.at 0 rfl) rfl rfl ?_
  refine sw_iload_n (dX8_mark.at 1 rfl) rfl rfl ?_
  refine sw_callV (B' := B0) (As := [vi (((x : Nat) : Int))]) (mc := 0) (ms := 0) (dX8_mark.at 2 rfl) lk_X8_130 (S_lt 0 (by decide)) (S_0 nw nx g) rfl rfl (Nat.le_of_ble_eq_true rfl) rfl (Nat.le_refl _) (Nat.le_refl _) ?_
  refine c_X8_isElementP (x := ((x : Nat) : Int)) (j := j + 0) hnw hE hV hv.1 ?_
  replace hv := hv.2
  refine sw_if_ne (tgt := 11) (dX8_mark.at 3 rfl) (by decide) (bz_rng _) (fun q => ?_) (fun q => ?_)
  · replace hv := hv.1 (bz_1 q)
    refine sw_aload_n (dX8_mark.at 6 rfl) rfl rfl ?_
    refine sw_getR (dX8_mark.at 7 rfl) fp_X8_54 (S_lt 0 (by decide)) (S_0 nw nx g) rfl rfl ?_
    refine sw_aload_n (dX8_mark.at 8 rfl) rfl rfl ?_
    refine sw_getR (dX8_mark.at 9 rfl) fp_X8_54 (S_lt 0 (by decide)) (S_0 nw nx g) rfl rfl ?_
    refine sw_getLE (w := ((T : Nat) : Int)) (dX8_mark.at 10 rfl) fp_X8_301 (S_lt 15 (by decide)) (S_15 nw nx g) rfl hT ?_
    refine sw_lconst (z := 1) (dX8_mark.at 11 rfl) (by decide) ?_
    refine sw_iload_n (dX8_mark.at 12 rfl) rfl rfl ?_
    refine sw_lshlN 1 x (dX8_mark.at 13 rfl) hv.1 ?_
    replace hv := hv.2
    refine sw_lxorN T (1 * 2 ^ x) (dX8_mark.at 14 rfl) ?_
    refine sw_callV (B' := B0) (As := [vl (((T ^^^ (1 * 2 ^ x) : Nat) : Int))]) (mc := 0) (ms := 0) (dX8_mark.at 15 rfl) lk_X8_312 (S_lt 15 (by decide)) (S_15 nw nx g) rfl rfl (Nat.le_of_ble_eq_true rfl) rfl (Nat.le_refl _) (Nat.le_refl _) ?_
    refine c_X3_actN (w := ((T ^^^ (1 * 2 ^ x) : Nat) : Int)) (j := j + 0) hA hv.1 hv.2.1 ?_
    replace hv := hv.2.2
    refine sw_if_ne (tgt := 35) (dX8_mark.at 16 rfl) (by decide) (by decide) (fun q => ?_) (fun q => ?_)
    · exact absurd q (by decide)
    · clear q
      refine sw_bipush (dX8_mark.at 17 rfl) (by decide) ?_
      exact sw_iret (dX8_mark.at 18 rfl) rfl (Nat.le_refl _) (Nat.le_refl _) hv
  · replace hv := hv.2 (bz_n1 q)
    refine sw_bipush (dX8_mark.at 4 rfl) (by decide) ?_
    exact sw_iret (dX8_mark.at 5 rfl) rfl (Nat.le_refl _) (Nat.le_refl _) hv

set_option maxHeartbeats 2000000 in
set_option maxRecDepth 20000 in
theorem g_X8_mark_0ok {G : GG} {j nw nx gn : Nat} {g : Nat → Sh} {c : Nat → Nat → Int} {post : Option AV → AM → Prop} {x : Nat} {P : GD} {T : Nat} {A : Nat} (hnw : nw = 21 ∨ nw = 35) (hE : EL c nw P) (hV : GV P) (hT : c 15 4 = ((T : Nat) : Int)) (hA : c 15 5 = ((A : Nat) : Int))  (hv : (-2147483648 ≤ ((x : Nat) : Int) ∧ ((x : Nat) : Int) < 2147483648) ∧ ((((decide (0 ≤ ((x : Nat) : Int) ∧ ((x : Nat) : Int) < (gN P : Int))) = true) → (x < 64) ∧ ((A < 30) ∧ (post (some (vi (bcJ ((T ^^^ (1 * 2 ^ x) : Nat) : Int)))) (S nw nx g, 78 + gn, (up2 (up2 (up2 c 16 A (c 15 4)) 15 5 ((A + 1 : Nat) : Int)) 15 4 ((T ^^^ (1 * 2 ^ x) : Nat) : Int)))))) ∧ (((decide (0 ≤ ((x : Nat) : Int) ∧ ((x : Nat) : Int) < (gN P : Int))) = false) → post (some (vi ((-2)))) (S nw nx g, 78 + gn, c)))) :
    SW G (j + 1) mX8_mark 0 [some (vr (0)), some (vi (((x : Nat) : Int)))] [] (S nw nx g, 78 + gn, c) B0 post := by
  refine sw_aload_n (dX8_mark.at 0 rfl) rfl rfl ?_
  refine sw_iload_n (dX8_mark.at 1 rfl) rfl rfl ?_
  refine sw_callV (B' := B0) (As := [vi (((x : Nat) : Int))]) (mc := 0) (ms := 0) (dX8_mark.at 2 rfl) lk_X8_130 (S_lt 0 (by decide)) (S_0 nw nx g) rfl rfl (Nat.le_of_ble_eq_true rfl) rfl (Nat.le_refl _) (Nat.le_refl _) ?_
  refine c_X8_isElementP (x := ((x : Nat) : Int)) (j := j + 0) hnw hE hV hv.1 ?_
  replace hv := hv.2
  refine sw_if_ne (tgt := 11) (dX8_mark.at 3 rfl) (by decide) (bz_rng _) (fun q => ?_) (fun q => ?_)
  · replace hv := hv.1 (bz_1 q)
    refine sw_aload_n (dX8_mark.at 6 rfl) rfl rfl ?_
    refine sw_getR (dX8_mark.at 7 rfl) fp_X8_54 (S_lt 0 (by decide)) (S_0 nw nx g) rfl rfl ?_
    refine sw_aload_n (dX8_mark.at 8 rfl) rfl rfl ?_
    refine sw_getR (dX8_mark.at 9 rfl) fp_X8_54 (S_lt 0 (by decide)) (S_0 nw nx g) rfl rfl ?_
    refine sw_getLE (w := ((T : Nat) : Int)) (dX8_mark.at 10 rfl) fp_X8_301 (S_lt 15 (by decide)) (S_15 nw nx g) rfl hT ?_
    refine sw_lconst (z := 1) (dX8_mark.at 11 rfl) (by decide) ?_
    refine sw_iload_n (dX8_mark.at 12 rfl) rfl rfl ?_
    refine sw_lshlN 1 x (dX8_mark.at 13 rfl) hv.1 ?_
    replace hv := hv.2
    refine sw_lxorN T (1 * 2 ^ x) (dX8_mark.at 14 rfl) ?_
    refine sw_callV (B' := B0) (As := [vl (((T ^^^ (1 * 2 ^ x) : Nat) : Int))]) (mc := 0) (ms := 0) (dX8_mark.at 15 rfl) lk_X8_312 (S_lt 15 (by decide)) (S_15 nw nx g) rfl rfl (Nat.le_of_ble_eq_true rfl) rfl (Nat.le_refl _) (Nat.le_refl _) ?_
    refine c_X3_actY (w := ((T ^^^ (1 * 2 ^ x) : Nat) : Int)) (j := j + 0) hA hv.1 ?_
    replace hv := hv.2
    refine sw_if_ne (tgt := 35) (dX8_mark.at 16 rfl) (by decide) (by decide) (fun q => ?_) (fun q => ?_)
    · clear q
      refine sw_aload_n (dX8_mark.at 19 rfl) rfl rfl ?_
      refine sw_getR (dX8_mark.at 20 rfl) fp_X8_54 (S_lt 0 (by decide)) (S_0 nw nx g) rfl rfl ?_
      refine sw_getLE (w := ((T ^^^ (1 * 2 ^ x) : Nat) : Int)) (dX8_mark.at 21 rfl) fp_X8_301 (S_lt 15 (by decide)) (S_15 nw nx g) rfl (up2_eq (up2 (up2 c 16 A (c 15 4)) 15 5 ((A + 1 : Nat) : Int)) 15 4 ((T ^^^ (1 * 2 ^ x) : Nat) : Int)) ?_
      refine sw_callS (post' := post) (B' := B0) (As := [vl (((T ^^^ (1 * 2 ^ x) : Nat) : Int))]) (mc := 0) (ms := 0) (dX8_mark.at 22 rfl) lk_X8_298 rfl rfl (Nat.le_of_ble_eq_true rfl) rfl (Nat.le_refl _) (Nat.le_refl _) ?_
      refine c_J13_bitCount_95d88 (z := ((T ^^^ (1 * 2 ^ x) : Nat) : Int)) (j := j + 0)  ?_
      exact sw_iret (dX8_mark.at 23 rfl) rfl (Nat.le_refl _) (Nat.le_refl _) hv
    · exact absurd q (by decide)
  · replace hv := hv.2 (bz_n1 q)
    refine sw_bipush (dX8_mark.at 4 rfl) (by decide) ?_
    exact sw_iret (dX8_mark.at 5 rfl) rfl (Nat.le_refl _) (Nat.le_refl _) hv

set_option maxHeartbeats 2000000 in
set_option maxRecDepth 20000 in
theorem g_X8_mark_0 {G : GG} {j nw nx gn : Nat} {g : Nat → Sh} {c : Nat → Nat → Int} {post : Option AV → AM → Prop} {x : Int} {P : GD} {T : Nat} {A : Nat} (hnw : nw = 21 ∨ nw = 35) (hE : EL c nw P) (hV : GV P) (hT : c 15 4 = ((T : Nat) : Int)) (hA : c 15 5 = ((A : Nat) : Int))  (hv : (-2147483648 ≤ x ∧ x < 2147483648) ∧ ((((decide (0 ≤ x ∧ x < (gN P : Int))) = true) → (A < 30) ∧ (post (some (vi (bcJ (xor64 ((T : Nat) : Int) (shl64 1 x))))) (S nw nx g, 78 + gn, (up2 (up2 (up2 c 16 A (c 15 4)) 15 5 ((A + 1 : Nat) : Int)) 15 4 (xor64 ((T : Nat) : Int) (shl64 1 x)))))) ∧ (((decide (0 ≤ x ∧ x < (gN P : Int))) = false) → post (some (vi ((-2)))) (S nw nx g, 78 + gn, c)))) :
    SW G (j + 1) mX8_mark 0 [some (vr (0)), some (vi (x))] [] (S nw nx g, 78 + gn, c) B0 post := by
  refine sw_aload_n (dX8_mark.at 0 rfl) rfl rfl ?_
  refine sw_iload_n (dX8_mark.at 1 rfl) rfl rfl ?_
  refine sw_callV (B' := B0) (As := [vi (x)]) (mc := 0) (ms := 0) (dX8_mark.at 2 rfl) lk_X8_130 (S_lt 0 (by decide)) (S_0 nw nx g) rfl rfl (Nat.le_of_ble_eq_true rfl) rfl (Nat.le_refl _) (Nat.le_refl _) ?_
  refine c_X8_isElementP (x := x) (j := j + 0) hnw hE hV hv.1 ?_
  replace hv := hv.2
  refine sw_if_ne (tgt := 11) (dX8_mark.at 3 rfl) (by decide) (bz_rng _) (fun q => ?_) (fun q => ?_)
  · replace hv := hv.1 (bz_1 q)
    refine sw_aload_n (dX8_mark.at 6 rfl) rfl rfl ?_
    refine sw_getR (dX8_mark.at 7 rfl) fp_X8_54 (S_lt 0 (by decide)) (S_0 nw nx g) rfl rfl ?_
    refine sw_aload_n (dX8_mark.at 8 rfl) rfl rfl ?_
    refine sw_getR (dX8_mark.at 9 rfl) fp_X8_54 (S_lt 0 (by decide)) (S_0 nw nx g) rfl rfl ?_
    refine sw_getLE (w := ((T : Nat) : Int)) (dX8_mark.at 10 rfl) fp_X8_301 (S_lt 15 (by decide)) (S_15 nw nx g) rfl hT ?_
    refine sw_lconst (z := 1) (dX8_mark.at 11 rfl) (by decide) ?_
    refine sw_iload_n (dX8_mark.at 12 rfl) rfl rfl ?_
    refine sw_lshl (dX8_mark.at 13 rfl) ?_
    refine sw_lxor (dX8_mark.at 14 rfl) ?_
    refine sw_callV (B' := B0) (As := [vl (xor64 ((T : Nat) : Int) (shl64 1 x))]) (mc := 0) (ms := 0) (dX8_mark.at 15 rfl) lk_X8_312 (S_lt 15 (by decide)) (S_15 nw nx g) rfl rfl (Nat.le_of_ble_eq_true rfl) rfl (Nat.le_refl _) (Nat.le_refl _) ?_
    refine c_X3_actY (w := (xor64 ((T : Nat) : Int) (shl64 1 x))) (j := j + 0) hA hv.1 ?_
    replace hv := hv.2
    refine sw_if_ne (tgt := 35) (dX8_mark.at 16 rfl) (by decide) (by decide) (fun q => ?_) (fun q => ?_)
    · clear q
      refine sw_aload_n (dX8_mark.at 19 rfl) rfl rfl ?_
      refine sw_getR (dX8_mark.at 20 rfl) fp_X8_54 (S_lt 0 (by decide)) (S_0 nw nx g) rfl rfl ?_
      refine sw_getLE (w := xor64 ((T : Nat) : Int) (shl64 1 x)) (dX8_mark.at 21 rfl) fp_X8_301 (S_lt 15 (by decide)) (S_15 nw nx g) rfl (up2_eq (up2 (up2 c 16 A (c 15 4)) 15 5 ((A + 1 : Nat) : Int)) 15 4 (xor64 ((T : Nat) : Int) (shl64 1 x))) ?_
      refine sw_callS (post' := post) (B' := B0) (As := [vl (xor64 ((T : Nat) : Int) (shl64 1 x))]) (mc := 0) (ms := 0) (dX8_mark.at 22 rfl) lk_X8_298 rfl rfl (Nat.le_of_ble_eq_true rfl) rfl (Nat.le_refl _) (Nat.le_refl _) ?_
      refine c_J13_bitCount_95d88 (z := (xor64 ((T : Nat) : Int) (shl64 1 x))) (j := j + 0)  ?_
      exact sw_iret (dX8_mark.at 23 rfl) rfl (Nat.le_refl _) (Nat.le_refl _) hv
    · exact absurd q (by decide)
  · replace hv := hv.2 (bz_n1 q)
    refine sw_bipush (dX8_mark.at 4 rfl) (by decide) ?_
    exact sw_iret (dX8_mark.at 5 rfl) rfl (Nat.le_refl _) (Nat.le_refl _) hv

set_option maxHeartbeats 2000000 in
set_option maxRecDepth 20000 in
theorem g_X8_shift_0no {G : GG} {j nw nx gn : Nat} {g : Nat → Sh} {c : Nat → Nat → Int} {post : Option AV → AM → Prop} {x : Nat} {P : GD} {T : Nat} {A : Nat} (hnw : nw = 21 ∨ nw = 35) (hE : EL c nw P) (hV : GV P) (hT : c 15 4 = ((T : Nat) : Int)) (hA : c 15 5 = ((A : Nat) : Int))  (hv : (-2147483648 ≤ ((x : Nat) : Int) ∧ ((x : Nat) : Int) < 2147483648) ∧ ((((decide (0 ≤ ((x : Nat) : Int) ∧ ((x : Nat) : Int) < (gR P : Int))) = true) → (x < gR P) ∧ (T < 2 ^ 60) ∧ ((¬ A < 30) ∧ (A ≤ 30) ∧ (post (some (vi ((-5)))) (S nw nx g, 78 + gn, c)))) ∧ (((decide (0 ≤ ((x : Nat) : Int) ∧ ((x : Nat) : Int) < (gR P : Int))) = false) → post (some (vi ((-2)))) (S nw nx g, 78 + gn, c)))) :
    SW G (j + 2) mX8_shift 0 [some (vr (0)), some (vi (((x : Nat) : Int)))] [] (S nw nx g, 78 + gn, c) B0 post := by
  refine sw_aload_n (dX8_shift.at 0 rfl) rfl rfl ?_
  refine sw_iload_n (dX8_shift.at 1 rfl) rfl rfl ?_
  refine sw_callV (B' := B0) (As := [vi (((x : Nat) : Int))]) (mc := 0) (ms := 0) (dX8_shift.at 2 rfl) lk_X8_122 (S_lt 0 (by decide)) (S_0 nw nx g) rfl rfl (Nat.le_of_ble_eq_true rfl) rfl (Nat.le_refl _) (Nat.le_refl _) ?_
  refine c_X8_isLetter (x := ((x : Nat) : Int)) (j := j + 1) hnw hE hV hv.1 ?_
  replace hv := hv.2
  refine sw_if_ne (tgt := 11) (dX8_shift.at 3 rfl) (by decide) (bz_rng _) (fun q => ?_) (fun q => ?_)
  · replace hv := hv.1 (bz_1 q)
    refine sw_aload_n (dX8_shift.at 6 rfl) rfl rfl ?_
    refine sw_getR (dX8_shift.at 7 rfl) fp_X8_54 (S_lt 0 (by decide)) (S_0 nw nx g) rfl rfl ?_
    refine sw_aload_n (dX8_shift.at 8 rfl) rfl rfl ?_
    refine sw_getR (dX8_shift.at 9 rfl) fp_X8_65 (S_lt 0 (by decide)) (S_0 nw nx g) rfl rfl ?_
    refine sw_aload_n (dX8_shift.at 10 rfl) rfl rfl ?_
    refine sw_getR (dX8_shift.at 11 rfl) fp_X8_54 (S_lt 0 (by decide)) (S_0 nw nx g) rfl rfl ?_
    refine sw_getLE (w := ((T : Nat) : Int)) (dX8_shift.at 12 rfl) fp_X8_301 (S_lt 15 (by decide)) (S_15 nw nx g) rfl hT ?_
    refine sw_iload_n (dX8_shift.at 13 rfl) rfl rfl ?_
    refine sw_callV (B' := B0) (As := [vl (((T : Nat) : Int)), vi (((x : Nat) : Int))]) (mc := 0) (ms := 0) (dX8_shift.at 14 rfl) lk_X8_316 (S_e_lt hnw) (S_e hnw) rfl rfl (Nat.le_of_ble_eq_true rfl) rfl (Nat.le_refl _) (Nat.le_refl _) ?_
    refine c_X1_allBy (e := nw) (T := T) (s := x) (j := j + 0) hnw hE hV hv.1 hv.2.1 ?_
    replace hv := hv.2.2
    refine sw_callV (B' := B0) (As := [vl (((gAll P T x (gN P) : Nat) : Int))]) (mc := 0) (ms := 0) (dX8_shift.at 15 rfl) lk_X8_312 (S_lt 15 (by decide)) (S_15 nw nx g) rfl rfl (Nat.le_of_ble_eq_true rfl) rfl (Nat.le_refl _) (Nat.le_refl _) ?_
    refine c_X3_actN (w := ((gAll P T x (gN P) : Nat) : Int)) (j := j + 1) hA hv.1 hv.2.1 ?_
    replace hv := hv.2.2
    refine sw_if_ne (tgt := 39) (dX8_shift.at 16 rfl) (by decide) (by decide) (fun q => ?_) (fun q => ?_)
    · exact absurd q (by decide)
    · clear q
      refine sw_bipush (dX8_shift.at 17 rfl) (by decide) ?_
      exact sw_iret (dX8_shift.at 18 rfl) rfl (Nat.le_refl _) (Nat.le_refl _) hv
  · replace hv := hv.2 (bz_n1 q)
    refine sw_bipush (dX8_shift.at 4 rfl) (by decide) ?_
    exact sw_iret (dX8_shift.at 5 rfl) rfl (Nat.le_refl _) (Nat.le_refl _) hv

set_option maxHeartbeats 2000000 in
set_option maxRecDepth 20000 in
theorem g_X8_shift_0ok {G : GG} {j nw nx gn : Nat} {g : Nat → Sh} {c : Nat → Nat → Int} {post : Option AV → AM → Prop} {x : Nat} {P : GD} {T : Nat} {A : Nat} (hnw : nw = 21 ∨ nw = 35) (hE : EL c nw P) (hV : GV P) (hT : c 15 4 = ((T : Nat) : Int)) (hA : c 15 5 = ((A : Nat) : Int))  (hv : (-2147483648 ≤ ((x : Nat) : Int) ∧ ((x : Nat) : Int) < 2147483648) ∧ ((((decide (0 ≤ ((x : Nat) : Int) ∧ ((x : Nat) : Int) < (gR P : Int))) = true) → (x < gR P) ∧ (T < 2 ^ 60) ∧ ((A < 30) ∧ (post (some (vi (bcJ ((gAll P T x (gN P) : Nat) : Int)))) (S nw nx g, 78 + gn, (up2 (up2 (up2 c 16 A (c 15 4)) 15 5 ((A + 1 : Nat) : Int)) 15 4 ((gAll P T x (gN P) : Nat) : Int)))))) ∧ (((decide (0 ≤ ((x : Nat) : Int) ∧ ((x : Nat) : Int) < (gR P : Int))) = false) → post (some (vi ((-2)))) (S nw nx g, 78 + gn, c)))) :
    SW G (j + 2) mX8_shift 0 [some (vr (0)), some (vi (((x : Nat) : Int)))] [] (S nw nx g, 78 + gn, c) B0 post := by
  refine sw_aload_n (dX8_shift.at 0 rfl) rfl rfl ?_
  refine sw_iload_n (dX8_shift.at 1 rfl) rfl rfl ?_
  refine sw_callV (B' := B0) (As := [vi (((x : Nat) : Int))]) (mc := 0) (ms := 0) (dX8_shift.at 2 rfl) lk_X8_122 (S_lt 0 (by decide)) (S_0 nw nx g) rfl rfl (Nat.le_of_ble_eq_true rfl) rfl (Nat.le_refl _) (Nat.le_refl _) ?_
  refine c_X8_isLetter (x := ((x : Nat) : Int)) (j := j + 1) hnw hE hV hv.1 ?_
  replace hv := hv.2
  refine sw_if_ne (tgt := 11) (dX8_shift.at 3 rfl) (by decide) (bz_rng _) (fun q => ?_) (fun q => ?_)
  · replace hv := hv.1 (bz_1 q)
    refine sw_aload_n (dX8_shift.at 6 rfl) rfl rfl ?_
    refine sw_getR (dX8_shift.at 7 rfl) fp_X8_54 (S_lt 0 (by decide)) (S_0 nw nx g) rfl rfl ?_
    refine sw_aload_n (dX8_shift.at 8 rfl) rfl rfl ?_
    refine sw_getR (dX8_shift.at 9 rfl) fp_X8_65 (S_lt 0 (by decide)) (S_0 nw nx g) rfl rfl ?_
    refine sw_aload_n (dX8_shift.at 10 rfl) rfl rfl ?_
    refine sw_getR (dX8_shift.at 11 rfl) fp_X8_54 (S_lt 0 (by decide)) (S_0 nw nx g) rfl rfl ?_
    refine sw_getLE (w := ((T : Nat) : Int)) (dX8_shift.at 12 rfl) fp_X8_301 (S_lt 15 (by decide)) (S_15 nw nx g) rfl hT ?_
    refine sw_iload_n (dX8_shift.at 13 rfl) rfl rfl ?_
    refine sw_callV (B' := B0) (As := [vl (((T : Nat) : Int)), vi (((x : Nat) : Int))]) (mc := 0) (ms := 0) (dX8_shift.at 14 rfl) lk_X8_316 (S_e_lt hnw) (S_e hnw) rfl rfl (Nat.le_of_ble_eq_true rfl) rfl (Nat.le_refl _) (Nat.le_refl _) ?_
    refine c_X1_allBy (e := nw) (T := T) (s := x) (j := j + 0) hnw hE hV hv.1 hv.2.1 ?_
    replace hv := hv.2.2
    refine sw_callV (B' := B0) (As := [vl (((gAll P T x (gN P) : Nat) : Int))]) (mc := 0) (ms := 0) (dX8_shift.at 15 rfl) lk_X8_312 (S_lt 15 (by decide)) (S_15 nw nx g) rfl rfl (Nat.le_of_ble_eq_true rfl) rfl (Nat.le_refl _) (Nat.le_refl _) ?_
    refine c_X3_actY (w := ((gAll P T x (gN P) : Nat) : Int)) (j := j + 1) hA hv.1 ?_
    replace hv := hv.2
    refine sw_if_ne (tgt := 39) (dX8_shift.at 16 rfl) (by decide) (by decide) (fun q => ?_) (fun q => ?_)
    · clear q
      refine sw_aload_n (dX8_shift.at 19 rfl) rfl rfl ?_
      refine sw_getR (dX8_shift.at 20 rfl) fp_X8_54 (S_lt 0 (by decide)) (S_0 nw nx g) rfl rfl ?_
      refine sw_getLE (w := ((gAll P T x (gN P) : Nat) : Int)) (dX8_shift.at 21 rfl) fp_X8_301 (S_lt 15 (by decide)) (S_15 nw nx g) rfl (up2_eq (up2 (up2 c 16 A (c 15 4)) 15 5 ((A + 1 : Nat) : Int)) 15 4 ((gAll P T x (gN P) : Nat) : Int)) ?_
      refine sw_callS (post' := post) (B' := B0) (As := [vl (((gAll P T x (gN P) : Nat) : Int))]) (mc := 0) (ms := 0) (dX8_shift.at 22 rfl) lk_X8_298 rfl rfl (Nat.le_of_ble_eq_true rfl) rfl (Nat.le_refl _) (Nat.le_refl _) ?_
      refine c_J13_bitCount_95d88 (z := ((gAll P T x (gN P) : Nat) : Int)) (j := j + 1)  ?_
      exact sw_iret (dX8_shift.at 23 rfl) rfl (Nat.le_refl _) (Nat.le_refl _) hv
    · exact absurd q (by decide)
  · replace hv := hv.2 (bz_n1 q)
    refine sw_bipush (dX8_shift.at 4 rfl) (by decide) ?_
    exact sw_iret (dX8_shift.at 5 rfl) rfl (Nat.le_refl _) (Nat.le_refl _) hv

set_option maxHeartbeats 2000000 in
set_option maxRecDepth 20000 in
theorem g_X8_shift_0 {G : GG} {j nw nx gn : Nat} {g : Nat → Sh} {c : Nat → Nat → Int} {post : Option AV → AM → Prop} {x : Int} {P : GD} {T : Nat} {A : Nat} (hnw : nw = 21 ∨ nw = 35) (hE : EL c nw P) (hV : GV P) (hT : c 15 4 = ((T : Nat) : Int)) (hA : c 15 5 = ((A : Nat) : Int))  (hv : (-2147483648 ≤ x ∧ x < 2147483648) ∧ ((((decide (0 ≤ x ∧ x < (gR P : Int))) = true) → SW G (j + 2) mX8_shift 27 [some (vr (0)), some (vi (x))] [vi (x), vl (((T : Nat) : Int)), vr (nw), vr (15)] (S nw nx g, 78 + gn, c) B0 post) ∧ (((decide (0 ≤ x ∧ x < (gR P : Int))) = false) → post (some (vi ((-2)))) (S nw nx g, 78 + gn, c)))) :
    SW G (j + 2) mX8_shift 0 [some (vr (0)), some (vi (x))] [] (S nw nx g, 78 + gn, c) B0 post := by
  refine sw_aload_n (dX8_shift.at 0 rfl) rfl rfl ?_
  refine sw_iload_n (dX8_shift.at 1 rfl) rfl rfl ?_
  refine sw_callV (B' := B0) (As := [vi (x)]) (mc := 0) (ms := 0) (dX8_shift.at 2 rfl) lk_X8_122 (S_lt 0 (by decide)) (S_0 nw nx g) rfl rfl (Nat.le_of_ble_eq_true rfl) rfl (Nat.le_refl _) (Nat.le_refl _) ?_
  refine c_X8_isLetter (x := x) (j := j + 1) hnw hE hV hv.1 ?_
  replace hv := hv.2
  refine sw_if_ne (tgt := 11) (dX8_shift.at 3 rfl) (by decide) (bz_rng _) (fun q => ?_) (fun q => ?_)
  · replace hv := hv.1 (bz_1 q)
    refine sw_aload_n (dX8_shift.at 6 rfl) rfl rfl ?_
    refine sw_getR (dX8_shift.at 7 rfl) fp_X8_54 (S_lt 0 (by decide)) (S_0 nw nx g) rfl rfl ?_
    refine sw_aload_n (dX8_shift.at 8 rfl) rfl rfl ?_
    refine sw_getR (dX8_shift.at 9 rfl) fp_X8_65 (S_lt 0 (by decide)) (S_0 nw nx g) rfl rfl ?_
    refine sw_aload_n (dX8_shift.at 10 rfl) rfl rfl ?_
    refine sw_getR (dX8_shift.at 11 rfl) fp_X8_54 (S_lt 0 (by decide)) (S_0 nw nx g) rfl rfl ?_
    refine sw_getLE (w := ((T : Nat) : Int)) (dX8_shift.at 12 rfl) fp_X8_301 (S_lt 15 (by decide)) (S_15 nw nx g) rfl hT ?_
    refine sw_iload_n (dX8_shift.at 13 rfl) rfl rfl ?_
    exact hv
  · replace hv := hv.2 (bz_n1 q)
    refine sw_bipush (dX8_shift.at 4 rfl) (by decide) ?_
    exact sw_iret (dX8_shift.at 5 rfl) rfl (Nat.le_refl _) (Nat.le_refl _) hv

set_option maxHeartbeats 2000000 in
set_option maxRecDepth 20000 in
theorem g_X8_thin_0no {G : GG} {j nw nx gn : Nat} {g : Nat → Sh} {c : Nat → Nat → Int} {post : Option AV → AM → Prop} {P : GD} {T : Nat} {A : Nat} (hnw : nw = 21 ∨ nw = 35) (hE : EL c nw P) (hV : GV P) (hT : c 15 4 = ((T : Nat) : Int)) (hA : c 15 5 = ((A : Nat) : Int))  (hv : (gN P < 2147483648) ∧ (((gN P ≠ 0) → (T < 2 ^ 60) ∧ ((¬ A < 30) ∧ (A ≤ 30) ∧ (post (some (vi ((-5)))) (S nw nx g, 78 + gn, c)))) ∧ ((gN P = 0) → post (some (vi ((-2)))) (S nw nx g, 78 + gn, c)))) :
    SW G (j + 2) mX8_thin 0 [some (vr (0)), none] [] (S nw nx g, 78 + gn, c) B0 post := by
  refine sw_aload_n (dX8_thin.at 0 rfl) rfl rfl ?_
  refine sw_getR (dX8_thin.at 1 rfl) fp_X8_65 (S_lt 0 (by decide)) (S_0 nw nx g) rfl rfl ?_
  refine sw_getIE (w := ((gN P : Nat) : Int)) (dX8_thin.at 2 rfl) fp_X8_103 (S_e_lt hnw) (S_e hnw) rfl (EL_N hE) ?_
  refine sw_ifN_ne (gN P) (tgt := 13) (dX8_thin.at 3 rfl) (by decide) hv.1 (fun q => ?_) (fun q => ?_)
  · replace hv := hv.2.1 q
    refine sw_aload_n (dX8_thin.at 6 rfl) rfl rfl ?_
    refine sw_getR (dX8_thin.at 7 rfl) fp_X8_54 (S_lt 0 (by decide)) (S_0 nw nx g) rfl rfl ?_
    refine sw_getLE (w := ((T : Nat) : Int)) (dX8_thin.at 8 rfl) fp_X8_301 (S_lt 15 (by decide)) (S_15 nw nx g) rfl hT ?_
    refine sw_callS (post' := post) (B' := B0) (As := [vl (((T : Nat) : Int))]) (mc := 0) (ms := 0) (dX8_thin.at 9 rfl) lk_X8_298 rfl rfl (Nat.le_of_ble_eq_true rfl) rfl (Nat.le_refl _) (Nat.le_refl _) ?_
    refine c_J13_bitCount_95d88 (z := ((T : Nat) : Int)) (j := j + 1)  ?_
    refine sw_istore_n (lo' := [some (vr (0)), some (vi (bcJ ((T : Nat) : Int)))]) (dX8_thin.at 10 rfl) rfl (by decide) rfl ?_
    refine sw_aload_n (dX8_thin.at 11 rfl) rfl rfl ?_
    refine sw_getR (dX8_thin.at 12 rfl) fp_X8_54 (S_lt 0 (by decide)) (S_0 nw nx g) rfl rfl ?_
    refine sw_aload_n (dX8_thin.at 13 rfl) rfl rfl ?_
    refine sw_aload_n (dX8_thin.at 14 rfl) rfl rfl ?_
    refine sw_getR (dX8_thin.at 15 rfl) fp_X8_54 (S_lt 0 (by decide)) (S_0 nw nx g) rfl rfl ?_
    refine sw_getLE (w := ((T : Nat) : Int)) (dX8_thin.at 16 rfl) fp_X8_301 (S_lt 15 (by decide)) (S_15 nw nx g) rfl hT ?_
    refine sw_callV (B' := B0) (As := [vl (((T : Nat) : Int))]) (mc := 0) (ms := 0) (dX8_thin.at 17 rfl) lk_X8_309 (S_lt 0 (by decide)) (S_0 nw nx g) rfl rfl (Nat.le_of_ble_eq_true rfl) rfl (Nat.le_refl _) (Nat.le_refl _) ?_
    refine c_X8_topmost (T := T) (j := j + 0) hnw hE hV hv.1 ?_
    replace hv := hv.2
    refine sw_callV (B' := B0) (As := [vl (((gTp P T : Nat) : Int))]) (mc := 0) (ms := 0) (dX8_thin.at 18 rfl) lk_X8_312 (S_lt 15 (by decide)) (S_15 nw nx g) rfl rfl (Nat.le_of_ble_eq_true rfl) rfl (Nat.le_refl _) (Nat.le_refl _) ?_
    refine c_X3_actN (w := ((gTp P T : Nat) : Int)) (j := j + 1) hA hv.1 hv.2.1 ?_
    replace hv := hv.2.2
    refine sw_if_ne (tgt := 48) (dX8_thin.at 19 rfl) (by decide) (by decide) (fun q => ?_) (fun q => ?_)
    · exact absurd q (by decide)
    · clear q
      refine sw_bipush (dX8_thin.at 20 rfl) (by decide) ?_
      exact sw_iret (dX8_thin.at 21 rfl) rfl (Nat.le_refl _) (Nat.le_refl _) hv
  · replace hv := hv.2.2 q
    refine sw_bipush (dX8_thin.at 4 rfl) (by decide) ?_
    exact sw_iret (dX8_thin.at 5 rfl) rfl (Nat.le_refl _) (Nat.le_refl _) hv

set_option maxHeartbeats 2000000 in
set_option maxRecDepth 20000 in
theorem g_X8_thin_0ok {G : GG} {j nw nx gn : Nat} {g : Nat → Sh} {c : Nat → Nat → Int} {post : Option AV → AM → Prop} {P : GD} {T : Nat} {A : Nat} (hnw : nw = 21 ∨ nw = 35) (hE : EL c nw P) (hV : GV P) (hT : c 15 4 = ((T : Nat) : Int)) (hA : c 15 5 = ((A : Nat) : Int))  (hv : (gN P < 2147483648) ∧ (((gN P ≠ 0) → (T < 2 ^ 60) ∧ ((A < 30) ∧ (post (some (vi ((bcJ ((T : Nat) : Int)) - (bcJ ((gTp P T : Nat) : Int))))) (S nw nx g, 78 + gn, (up2 (up2 (up2 c 16 A (c 15 4)) 15 5 ((A + 1 : Nat) : Int)) 15 4 ((gTp P T : Nat) : Int)))))) ∧ ((gN P = 0) → post (some (vi ((-2)))) (S nw nx g, 78 + gn, c)))) :
    SW G (j + 2) mX8_thin 0 [some (vr (0)), none] [] (S nw nx g, 78 + gn, c) B0 post := by
  refine sw_aload_n (dX8_thin.at 0 rfl) rfl rfl ?_
  refine sw_getR (dX8_thin.at 1 rfl) fp_X8_65 (S_lt 0 (by decide)) (S_0 nw nx g) rfl rfl ?_
  refine sw_getIE (w := ((gN P : Nat) : Int)) (dX8_thin.at 2 rfl) fp_X8_103 (S_e_lt hnw) (S_e hnw) rfl (EL_N hE) ?_
  refine sw_ifN_ne (gN P) (tgt := 13) (dX8_thin.at 3 rfl) (by decide) hv.1 (fun q => ?_) (fun q => ?_)
  · replace hv := hv.2.1 q
    refine sw_aload_n (dX8_thin.at 6 rfl) rfl rfl ?_
    refine sw_getR (dX8_thin.at 7 rfl) fp_X8_54 (S_lt 0 (by decide)) (S_0 nw nx g) rfl rfl ?_
    refine sw_getLE (w := ((T : Nat) : Int)) (dX8_thin.at 8 rfl) fp_X8_301 (S_lt 15 (by decide)) (S_15 nw nx g) rfl hT ?_
    refine sw_callS (post' := post) (B' := B0) (As := [vl (((T : Nat) : Int))]) (mc := 0) (ms := 0) (dX8_thin.at 9 rfl) lk_X8_298 rfl rfl (Nat.le_of_ble_eq_true rfl) rfl (Nat.le_refl _) (Nat.le_refl _) ?_
    refine c_J13_bitCount_95d88 (z := ((T : Nat) : Int)) (j := j + 1)  ?_
    refine sw_istore_n (lo' := [some (vr (0)), some (vi (bcJ ((T : Nat) : Int)))]) (dX8_thin.at 10 rfl) rfl (by decide) rfl ?_
    refine sw_aload_n (dX8_thin.at 11 rfl) rfl rfl ?_
    refine sw_getR (dX8_thin.at 12 rfl) fp_X8_54 (S_lt 0 (by decide)) (S_0 nw nx g) rfl rfl ?_
    refine sw_aload_n (dX8_thin.at 13 rfl) rfl rfl ?_
    refine sw_aload_n (dX8_thin.at 14 rfl) rfl rfl ?_
    refine sw_getR (dX8_thin.at 15 rfl) fp_X8_54 (S_lt 0 (by decide)) (S_0 nw nx g) rfl rfl ?_
    refine sw_getLE (w := ((T : Nat) : Int)) (dX8_thin.at 16 rfl) fp_X8_301 (S_lt 15 (by decide)) (S_15 nw nx g) rfl hT ?_
    refine sw_callV (B' := B0) (As := [vl (((T : Nat) : Int))]) (mc := 0) (ms := 0) (dX8_thin.at 17 rfl) lk_X8_309 (S_lt 0 (by decide)) (S_0 nw nx g) rfl rfl (Nat.le_of_ble_eq_true rfl) rfl (Nat.le_refl _) (Nat.le_refl _) ?_
    refine c_X8_topmost (T := T) (j := j + 0) hnw hE hV hv.1 ?_
    replace hv := hv.2
    refine sw_callV (B' := B0) (As := [vl (((gTp P T : Nat) : Int))]) (mc := 0) (ms := 0) (dX8_thin.at 18 rfl) lk_X8_312 (S_lt 15 (by decide)) (S_15 nw nx g) rfl rfl (Nat.le_of_ble_eq_true rfl) rfl (Nat.le_refl _) (Nat.le_refl _) ?_
    refine c_X3_actY (w := ((gTp P T : Nat) : Int)) (j := j + 1) hA hv.1 ?_
    replace hv := hv.2
    refine sw_if_ne (tgt := 48) (dX8_thin.at 19 rfl) (by decide) (by decide) (fun q => ?_) (fun q => ?_)
    · clear q
      refine sw_iload_n (dX8_thin.at 22 rfl) rfl rfl ?_
      refine sw_aload_n (dX8_thin.at 23 rfl) rfl rfl ?_
      refine sw_getR (dX8_thin.at 24 rfl) fp_X8_54 (S_lt 0 (by decide)) (S_0 nw nx g) rfl rfl ?_
      refine sw_getLE (w := ((gTp P T : Nat) : Int)) (dX8_thin.at 25 rfl) fp_X8_301 (S_lt 15 (by decide)) (S_15 nw nx g) rfl (up2_eq (up2 (up2 c 16 A (c 15 4)) 15 5 ((A + 1 : Nat) : Int)) 15 4 ((gTp P T : Nat) : Int)) ?_
      refine sw_callS (post' := post) (B' := B0) (As := [vl (((gTp P T : Nat) : Int))]) (mc := 0) (ms := 0) (dX8_thin.at 26 rfl) lk_X8_298 rfl rfl (Nat.le_of_ble_eq_true rfl) rfl (Nat.le_refl _) (Nat.le_refl _) ?_
      refine c_J13_bitCount_95d88 (z := ((gTp P T : Nat) : Int)) (j := j + 1)  ?_
      refine sw_isub (dX8_thin.at 27 rfl) ?_
      exact sw_iret (dX8_thin.at 28 rfl) rfl (Nat.le_refl _) (Nat.le_refl _) hv
    · exact absurd q (by decide)
  · replace hv := hv.2.2 q
    refine sw_bipush (dX8_thin.at 4 rfl) (by decide) ?_
    exact sw_iret (dX8_thin.at 5 rfl) rfl (Nat.le_refl _) (Nat.le_refl _) hv

def m_act (c : Nat → Nat → Int) (A : Nat) (w : Int) : Nat → Nat → Int := up2 (up2 (up2 c 16 A (c 15 4)) 15 5 ((A + 1 : Nat) : Int)) 15 4 w
def q_mark (P : GD) (T A : Nat) (x : Int) : Int := if 0 ≤ x ∧ x < (gN P : Int) then (if A < 30 then bcJ ((T ^^^ (1 * 2 ^ x.toNat) : Nat) : Int) else -5) else -2
def m_mark (P : GD) (T A : Nat) (x : Int) (c : Nat → Nat → Int) : Nat → Nat → Int := if (0 ≤ x ∧ x < (gN P : Int)) ∧ A < 30 then m_act c A ((T ^^^ (1 * 2 ^ x.toNat) : Nat) : Int) else c
def q_shift (P : GD) (T A : Nat) (x : Int) : Int := if 0 ≤ x ∧ x < (gR P : Int) then (if A < 30 then bcJ ((gAll P T x.toNat (gN P) : Nat) : Int) else -5) else -2
def m_shift (P : GD) (T A : Nat) (x : Int) (c : Nat → Nat → Int) : Nat → Nat → Int := if (0 ≤ x ∧ x < (gR P : Int)) ∧ A < 30 then m_act c A ((gAll P T x.toNat (gN P) : Nat) : Int) else c
def q_thin (P : GD) (T A : Nat) : Int := if gN P = 0 then -2 else if A < 30 then bcJ (T : Int) - bcJ ((gTp P T : Nat) : Int) else -5
def m_thin (P : GD) (T A : Nat) (c : Nat → Nat → Int) : Nat → Nat → Int := if ¬ gN P = 0 ∧ A < 30 then m_act c A ((gTp P T : Nat) : Int) else c
set_option maxHeartbeats 4000000 in
theorem c_X8_mark {G : GG} {j nw nx gn : Nat} {g : Nat → Sh} {c : Nat → Nat → Int} {post : Option AV → AM → Prop} {P : GD} {T A : Nat} {x : Int} (hnw : nw = 21 ∨ nw = 35) (hE : EL c nw P) (hV : GV P) (hT : c 15 4 = ((T : Nat) : Int)) (hA : c 15 5 = ((A : Nat) : Int)) (hT60 : T < 2 ^ 60) (hA30 : A ≤ 30) (p1 : -2147483648 ≤ x ∧ x < 2147483648) (K : post (some (vi (q_mark P T A x))) (S nw nx g, 78 + gn, m_mark P T A x c)) : SM G (j + 2) mX8_mark [vr 0, vi x] (S nw nx g, 78 + gn, c) 0 0 post := by
  refine sm_of wX8_mark rfl (Nat.le_of_ble_eq_true rfl) ?_
  have hN60 := GV_N hV
  have hR5 := GV_R hV
  have h63 := lt63 hT60
  by_cases hv : 0 ≤ x ∧ x < (gN P : Int)
  · obtain ⟨x, rfl⟩ : ∃ n : Nat, x = (n : Int) := ⟨x.toNat, by omega⟩
    have hx : x < gN P := by omega
    by_cases ha : A < 30
    · rw [q_mark, m_mark, if_pos hv, if_pos ha, if_pos ⟨hv, ha⟩] at K
      simp only [Int.toNat_natCast] at K
      refine g_X8_mark_0ok hnw hE hV hT hA ?_
      refine ⟨?_, ⟨fun q => ⟨?_, ⟨?_, ?_⟩⟩, fun q => ?_⟩⟩
      all_goals first | exact K | omega | assumption | (exfalso; simp only [decide_eq_true_eq, decide_eq_false_iff_not] at *; omega)
    · rw [q_mark, m_mark, if_pos hv, if_neg ha, if_neg (fun h => ha h.2)] at K
      refine g_X8_mark_0no hnw hE hV hT hA ?_
      refine ⟨?_, ⟨fun q => ⟨?_, ⟨?_, ?_, ?_⟩⟩, fun q => ?_⟩⟩
      all_goals first | exact K | omega | assumption | (exfalso; simp only [decide_eq_true_eq, decide_eq_false_iff_not] at *; omega)
  · rw [q_mark, m_mark, if_neg hv, if_neg (fun h => hv h.1)] at K
    refine g_X8_mark_0 hnw hE hV hT hA ?_
    refine ⟨?_, ⟨fun q => ⟨?_, ?_⟩, fun q => ?_⟩⟩
    all_goals first | exact K | omega | assumption | (exfalso; simp only [decide_eq_true_eq, decide_eq_false_iff_not] at *; omega)

set_option maxHeartbeats 4000000 in
theorem c_X8_shift {G : GG} {j nw nx gn : Nat} {g : Nat → Sh} {c : Nat → Nat → Int} {post : Option AV → AM → Prop} {P : GD} {T A : Nat} {x : Int} (hnw : nw = 21 ∨ nw = 35) (hE : EL c nw P) (hV : GV P) (hT : c 15 4 = ((T : Nat) : Int)) (hA : c 15 5 = ((A : Nat) : Int)) (hT60 : T < 2 ^ 60) (hA30 : A ≤ 30) (p1 : -2147483648 ≤ x ∧ x < 2147483648) (K : post (some (vi (q_shift P T A x))) (S nw nx g, 78 + gn, m_shift P T A x c)) : SM G (j + 3) mX8_shift [vr 0, vi x] (S nw nx g, 78 + gn, c) 0 0 post := by
  refine sm_of wX8_shift rfl (Nat.le_of_ble_eq_true rfl) ?_
  have hN60 := GV_N hV
  have hR5 := GV_R hV
  have h63 := lt63 hT60
  by_cases hv : 0 ≤ x ∧ x < (gR P : Int)
  · obtain ⟨x, rfl⟩ : ∃ n : Nat, x = (n : Int) := ⟨x.toNat, by omega⟩
    have hx : x < gR P := by omega
    by_cases ha : A < 30
    · rw [q_shift, m_shift, if_pos hv, if_pos ha, if_pos ⟨hv, ha⟩] at K
      simp only [Int.toNat_natCast] at K
      refine g_X8_shift_0ok hnw hE hV hT hA ?_
      refine ⟨?_, ⟨fun q => ⟨?_, ?_, ⟨?_, ?_⟩⟩, fun q => ?_⟩⟩
      all_goals first | exact K | omega | assumption | (exfalso; simp only [decide_eq_true_eq, decide_eq_false_iff_not] at *; omega)
    · rw [q_shift, m_shift, if_pos hv, if_neg ha, if_neg (fun h => ha h.2)] at K
      refine g_X8_shift_0no hnw hE hV hT hA ?_
      refine ⟨?_, ⟨fun q => ⟨?_, ?_, ⟨?_, ?_, ?_⟩⟩, fun q => ?_⟩⟩
      all_goals first | exact K | omega | assumption | (exfalso; simp only [decide_eq_true_eq, decide_eq_false_iff_not] at *; omega)
  · rw [q_shift, m_shift, if_neg hv, if_neg (fun h => hv h.1)] at K
    refine g_X8_shift_0 hnw hE hV hT hA ?_
    refine ⟨?_, ⟨fun q => ?_, fun q => ?_⟩⟩
    all_goals first | exact K | omega | assumption | (exfalso; simp only [decide_eq_true_eq, decide_eq_false_iff_not] at *; omega)

set_option maxHeartbeats 4000000 in
theorem c_X8_thin {G : GG} {j nw nx gn : Nat} {g : Nat → Sh} {c : Nat → Nat → Int} {post : Option AV → AM → Prop} {P : GD} {T A : Nat} (hnw : nw = 21 ∨ nw = 35) (hE : EL c nw P) (hV : GV P) (hT : c 15 4 = ((T : Nat) : Int)) (hA : c 15 5 = ((A : Nat) : Int)) (hT60 : T < 2 ^ 60) (hA30 : A ≤ 30) (K : post (some (vi (q_thin P T A))) (S nw nx g, 78 + gn, m_thin P T A c)) : SM G (j + 3) mX8_thin [vr 0] (S nw nx g, 78 + gn, c) 0 0 post := by
  refine sm_of wX8_thin rfl (Nat.le_of_ble_eq_true rfl) ?_
  have hN60 := GV_N hV
  have h63 := lt63 hT60
  by_cases ha : A < 30
  · refine g_X8_thin_0ok hnw hE hV hT hA ?_
    by_cases h0 : gN P = 0
    · rw [q_thin, m_thin, if_pos h0, if_neg (fun h => h.1 h0)] at K
      refine ⟨?_, ⟨fun q => ⟨?_, ⟨?_, ?_⟩⟩, fun q => ?_⟩⟩
      all_goals first | exact K | omega | assumption | (exfalso; omega)
    · rw [q_thin, m_thin, if_neg h0, if_pos ha, if_pos ⟨h0, ha⟩] at K
      refine ⟨?_, ⟨fun q => ⟨?_, ⟨?_, ?_⟩⟩, fun q => ?_⟩⟩
      all_goals first | exact K | omega | assumption | (exfalso; omega)
  · refine g_X8_thin_0no hnw hE hV hT hA ?_
    by_cases h0 : gN P = 0
    · rw [q_thin, m_thin, if_pos h0, if_neg (fun h => h.1 h0)] at K
      refine ⟨?_, ⟨fun q => ⟨?_, ⟨?_, ?_, ?_⟩⟩, fun q => ?_⟩⟩
      all_goals first | exact K | omega | assumption | (exfalso; omega)
    · rw [q_thin, m_thin, if_neg h0, if_neg ha, if_neg (fun h => ha h.2)] at K
      refine ⟨?_, ⟨fun q => ⟨?_, ⟨?_, ?_, ?_⟩⟩, fun q => ?_⟩⟩
      all_goals first | exact K | omega | assumption | (exfalso; omega)

