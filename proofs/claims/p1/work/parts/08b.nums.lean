def zx_far (a b : Int32) : Int32 := if zx_has ((1 : Int32) <<< (a &&& 31)) b = 0 then -1 else 0
theorem zx_far_near {a b : Int32} (ha : zx_in a 0 7 = 1) (hb : zx_in b 0 7 = 1) : zx_far a b = zx_near ((1 : Int32) <<< (a &&& 31)) b := by
  unfold zx_far zx_near
  by_cases q : zx_has ((1 : Int32) <<< (a &&& 31)) b = 0
  · rw [if_pos q, if_pos ((zx_has_near ha hb).mp q)]
  · rw [if_neg q, if_neg (fun h => q ((zx_has_near ha hb).mpr h))]
