section S25
variable {l : Launch} {dC : Nat → ClassId} {dI : Nat → Nat → Nat} {gs : Nat → Nat} {ad : Nat → Nat} {cc : Nat → ClassId}
set_option maxHeartbeats 8000000 in
set_option maxRecDepth 100000 in
theorem tc_make {a : Nat → Nat} {cx : Nat → ClassId} {sd : Int32} {H : Heap} (hP : va_P (dC, dI) vwCl (tc_L a cx sd) H) : va_P (dC, dI) vwCl (tc_w a cx (tm_u1 sd)) H := by
  intro k q hk
  have h36 : k < 36 := by
    have := (List.getElem?_eq_some_iff.mp hk).1
    simpa [tm_w] using this
  rw [tm_at h36 rfl] at hk
  cases hk
  match k, h36 with
  | 0, _ => exact hP 0 _ rfl
  | 1, _ => exact hP 1 _ rfl
  | 2, _ => exact (show H[a 2]? = some (arrV (cx 1) 2 (fun j => va_rf (some (a (j + 7))))) from by rw [arrV_ext (fun j hj => tc_m2 a j hj)]; exact hP 2 _ rfl)
  | 3, _ => exact (show H[a 3]? = some (arrV (cx 2) 4 (fun j => va_rf (some (a (j + 9))))) from by rw [arrV_ext (fun j hj => tc_m3 a j hj)]; exact hP 5 _ rfl)
  | 4, _ => exact (show H[a 4]? = some (arrV (cx 3) 8 (fun j => va_rf (some (a (j + 13))))) from by rw [arrV_ext (fun j hj => tc_m4 a j hj)]; exact hP 6 _ rfl)
  | 5, _ => exact (show H[a 5]? = some (arrV (cx 4) 3 (fun j => va_rf (some (a (j + 29))))) from by rw [arrV_ext (fun j hj => tc_m5 a j hj)]; exact hP 7 _ rfl)
  | 6, _ => exact (show H[a 6]? = some (arrV (cx 5) 4 (fun j => va_rf (some (a (j + 32))))) from by rw [arrV_ext (fun j hj => tc_m6 a j hj)]; exact hP 8 _ rfl)
  | 7, _ => exact (show H[a 7]? = some (vp_cell _ _) from by rw [vp_cell_l, arrV_ext (g := fun _ => .long 0) (fun j hj => by simp [tm_u1])]; exact hP 3 _ rfl)
  | 8, _ => exact (show H[a 8]? = some (vp_cell _ _) from by rw [vp_cell_l, arrV_ext (g := fun _ => .long 0) (fun j hj => by simp [tm_u1])]; exact hP 4 _ rfl)
  | 9, _ => exact hP 9 _ rfl
  | 10, _ => exact hP 10 _ rfl
  | 11, _ => exact hP 11 _ rfl
  | 12, _ => exact hP 12 _ rfl
  | 13, _ => exact hP 13 _ rfl
  | 14, _ => exact hP 15 _ rfl
  | 15, _ => exact hP 17 _ rfl
  | 16, _ => exact hP 19 _ rfl
  | 17, _ => exact hP 21 _ rfl
  | 18, _ => exact hP 23 _ rfl
  | 19, _ => exact hP 25 _ rfl
  | 20, _ => exact hP 27 _ rfl
  | 21, _ => exact (show H[a 21]? = some (vp_cell _ _) from by rw [vp_cell_l, arrV_ext (g := fun _ => .long 0) (fun j hj => by simp [tm_u1])]; exact hP 14 _ rfl)
  | 22, _ => exact (show H[a 22]? = some (vp_cell _ _) from by rw [vp_cell_l, arrV_ext (g := fun _ => .long 0) (fun j hj => by simp [tm_u1])]; exact hP 16 _ rfl)
  | 23, _ => exact (show H[a 23]? = some (vp_cell _ _) from by rw [vp_cell_l, arrV_ext (g := fun _ => .long 0) (fun j hj => by simp [tm_u1])]; exact hP 18 _ rfl)
  | 24, _ => exact (show H[a 24]? = some (vp_cell _ _) from by rw [vp_cell_l, arrV_ext (g := fun _ => .long 0) (fun j hj => by simp [tm_u1])]; exact hP 20 _ rfl)
  | 25, _ => exact (show H[a 25]? = some (vp_cell _ _) from by rw [vp_cell_l, arrV_ext (g := fun _ => .long 0) (fun j hj => by simp [tm_u1])]; exact hP 22 _ rfl)
  | 26, _ => exact (show H[a 26]? = some (vp_cell _ _) from by rw [vp_cell_l, arrV_ext (g := fun _ => .long 0) (fun j hj => by simp [tm_u1])]; exact hP 24 _ rfl)
  | 27, _ => exact (show H[a 27]? = some (vp_cell _ _) from by rw [vp_cell_l, arrV_ext (g := fun _ => .long 0) (fun j hj => by simp [tm_u1])]; exact hP 26 _ rfl)
  | 28, _ => exact (show H[a 28]? = some (vp_cell _ _) from by rw [vp_cell_l, arrV_ext (g := fun _ => .long 0) (fun j hj => by simp [tm_u1])]; exact hP 28 _ rfl)
  | 29, _ => exact hP 29 _ rfl
  | 30, _ => exact hP 30 _ rfl
  | 31, _ => exact hP 31 _ rfl
  | 32, _ => exact hP 32 _ rfl
  | 33, _ => exact hP 33 _ rfl
  | 34, _ => exact hP 34 _ rfl
  | 35, _ => exact hP 35 _ rfl
  | k + 36, h => exact absurd h (by omega)
end S25
