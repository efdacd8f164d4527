def lk_pick : List Cond → List Nat → List Cond
  | _, [] => []
  | l, k :: ks => match l.drop k with
    | [] => []
    | w :: r => w :: lk_pick r ks
theorem lk_pick_mem {w : Cond} : ∀ (ks : List Nat) (l : List Cond), w ∈ lk_pick l ks → w ∈ l
  | [], l, h => by simp [lk_pick] at h
  | k :: ks, l, h => by
    unfold lk_pick at h
    cases hd : l.drop k with
    | nil => rw [hd] at h; simp at h
    | cons x r =>
      rw [hd] at h
      have hx : ∀ y, y ∈ x :: r → y ∈ l := fun y hy => List.mem_of_mem_drop (by rw [hd]; exact hy)
      rcases List.mem_cons.mp h with rfl | h
      · exact hx _ List.mem_cons_self
      · exact hx _ (List.mem_cons_of_mem _ (lk_pick_mem ks r h))
theorem lk_in {big : List Cond} (ws : List Cond) (sk ps : List Nat) (h : ws = ps.filterMap (fun i => (lk_pick big sk)[i]?)) : ∀ w ∈ ws, w ∈ big := by
  intro w hw
  rw [h] at hw
  obtain ⟨i, -, hi⟩ := List.mem_filterMap.mp hw
  exact lk_pick_mem sk big (List.mem_of_getElem? hi)
theorem goodIn_k {big : List Cond} (ws : List Cond) (sk ps : List Nat) (hp : ws = ps.filterMap (fun i => (lk_pick big sk)[i]?)) (h : ws.all goodWord = true) : GoodIn big ws := goodIn_sub (lk_in ws sk ps hp) h
theorem lk_in2 {big : List Cond} (ws : List Cond) (sk qs : List Nat) (h : lk_pick big sk = qs.filterMap (fun i => ws[i]?)) (hq : (List.range ws.length).all (fun i => decide (i ∈ qs)) = true) : ∀ w ∈ ws, w ∈ big := by
  intro w hw
  obtain ⟨i, hi, e⟩ := List.mem_iff_getElem.mp hw
  refine lk_pick_mem sk big ?_
  rw [h]
  refine List.mem_filterMap.mpr ⟨i, of_decide_eq_true (List.all_eq_true.mp hq i (List.mem_range.mpr hi)), ?_⟩
  rw [List.getElem?_eq_getElem hi, e]
theorem goodIn_k2 {big : List Cond} (ws : List Cond) (sk qs : List Nat) (hp : lk_pick big sk = qs.filterMap (fun i => ws[i]?)) (hq : (List.range ws.length).all (fun i => decide (i ∈ qs)) = true) (h : ws.all goodWord = true) : GoodIn big ws := goodIn_sub (lk_in2 ws sk qs hp hq) h

set_option maxRecDepth 20000 in
theorem lkin_wsL_law_r1 : ∀ w ∈ wsL_law_r1, w ∈ lw_tbl := lk_in2 _ [41, 0, 1, 0, 5, 2, 0, 0, 0, 0, 0, 0, 0, 0, 0, 55, 0, 23, 0, 182, 0, 0, 470, 0] [2, 14, 18, 22, 5, 0, 1, 6, 7, 8, 9, 10, 11, 12, 13, 16, 17, 20, 21, 15, 19, 23, 3, 4] rfl (by decide +kernel)
set_option maxRecDepth 20000 in
theorem lkin_wsL_law_r2 : ∀ w ∈ wsL_law_r2, w ∈ lw_tbl := lk_in2 _ [47, 0, 0, 0, 14, 0, 0, 0, 1, 19, 1, 1, 108, 0, 44, 0, 38, 0, 20, 1, 17, 0, 0, 0] [2, 6, 10, 15, 16, 17, 18, 19, 22, 20, 21, 23, 0, 1, 4, 5, 8, 9, 12, 14, 3, 7, 11, 13] rfl (by decide +kernel)
set_option maxRecDepth 20000 in
theorem lkin_wsL_law_r3 : ∀ w ∈ wsL_law_r3, w ∈ lw_tbl := lk_in2 _ [43, 27, 0, 1, 0, 0, 0, 1, 2, 8, 4, 1, 1, 1, 0, 18, 0, 0, 0, 0, 1, 1, 1, 1] [6, 4, 5, 8, 9, 10, 11, 13, 14, 12, 0, 1, 2, 3, 7, 15, 16, 17, 18, 22, 19, 20, 21, 23] rfl (by decide +kernel)
set_option maxRecDepth 20000 in
theorem lkin_wsL_law_r4 : ∀ w ∈ wsL_law_r4, w ∈ lw_tbl := lk_in2 _ [46, 99, 0, 0, 0, 0, 1, 1, 0, 0, 0, 2, 0, 0, 0, 11, 1, 1, 1, 1, 1, 1, 18, 0] [13, 0, 1, 2, 3, 4, 12, 14, 15, 16, 17, 18, 19, 20, 21, 5, 6, 7, 8, 9, 10, 11, 22, 23] rfl (by decide +kernel)
set_option maxRecDepth 20000 in
theorem lkin_wsL_law_r5 : ∀ w ∈ wsL_law_r5, w ∈ lw_tbl := lk_in2 _ [208, 0, 0, 1, 1, 1, 1, 1, 1, 1, 0, 0, 21, 3, 0, 0, 0, 1, 1, 1, 1, 1, 1, 1] [0, 4, 1, 3, 5, 6, 7, 8, 9, 10, 11, 12, 2, 13, 14, 15, 19, 16, 17, 18, 20, 21, 22, 23] rfl (by decide +kernel)
set_option maxRecDepth 20000 in
theorem lkin_wsL_law_r6 : ∀ w ∈ wsL_law_r6, w ∈ lw_tbl := lk_in2 _ [256, 14, 20, 0, 0, 0, 1, 1, 1, 13, 0, 0, 0, 0, 0, 482, 0, 0, 0, 1, 0, 0, 0, 0] [0, 1, 2, 3, 4, 5, 6, 7, 8, 9, 10, 11, 12, 13, 14, 15, 16, 17, 18, 19, 20, 21, 22, 23] rfl (by decide +kernel)
set_option maxRecDepth 20000 in
theorem lkin_wsL_law_r7 : ∀ w ∈ wsL_law_r7, w ∈ lw_tbl := lk_in2 _ [807, 8, 0, 1, 0, 0, 0, 0, 0, 2, 0, 0, 1, 0, 0, 0, 0, 0, 0, 0, 2, 0, 1, 0] [18, 0, 1, 2, 3, 4, 5, 6, 7, 8, 9, 10, 11, 12, 13, 14, 15, 16, 17, 19, 20, 21, 22, 23] rfl (by decide +kernel)
set_option maxRecDepth 20000 in
theorem lkin_wsL_law_r8 : ∀ w ∈ wsL_law_r8, w ∈ lw_tbl := lk_in2 _ [93, 256, 0, 0, 0, 0, 0, 0, 0, 0, 0, 486, 0, 0, 0, 85, 0, 0, 0, 0, 0, 0, 1, 0] [8, 4, 5, 6, 7, 9, 10, 11, 12, 13, 14, 0, 1, 2, 3, 15, 16, 17, 18, 19, 22, 23, 20, 21] rfl (by decide +kernel)
set_option maxRecDepth 20000 in
theorem lkin_wsL_law_r9 : ∀ w ∈ wsL_law_r9, w ∈ lw_tbl := lk_in2 _ [95, 264, 0, 0, 0, 0, 0, 0, 0, 0, 0, 0, 0, 0, 0, 0, 567, 2, 0, 0, 0, 0, 0, 0] [5, 1, 2, 3, 4, 13, 14, 15, 16, 18, 19, 20, 17, 21, 22, 23, 0, 6, 7, 8, 9, 10, 11, 12] rfl (by decide +kernel)
set_option maxRecDepth 20000 in
theorem lkin_wsL_law_r10 : ∀ w ∈ wsL_law_r10, w ∈ lw_tbl := lk_in2 _ [0, 20, 0, 352, 0, 1, 0, 0, 571, 0, 0, 0, 0, 0, 0, 0, 0, 0, 1, 0, 0, 1, 0, 0] [3, 17, 21, 0, 1, 2, 4, 23, 5, 6, 7, 8, 10, 11, 12, 13, 14, 15, 16, 18, 19, 20, 22, 9] rfl (by decide +kernel)
set_option maxRecDepth 20000 in
theorem lkin_wsL_law_r11 : ∀ w ∈ wsL_law_r11, w ∈ lw_tbl := lk_in2 _ [1, 0, 78, 299, 0, 0, 0, 0, 0, 0, 0, 0, 0, 0, 0, 1, 0, 0, 0, 0, 0, 0, 1, 4] [14, 23, 16, 0, 1, 2, 3, 4, 5, 6, 7, 8, 9, 10, 12, 13, 15, 17, 18, 19, 20, 21, 22, 11] rfl (by decide +kernel)
set_option maxRecDepth 20000 in
theorem lkin_wsL_law_r12 : ∀ w ∈ wsL_law_r12, w ∈ lw_tbl := lk_in _ [3, 48, 31, 318, 1, 0, 1, 1, 0, 0, 0, 0, 0, 0, 0, 1, 0, 0, 0, 0, 0, 0, 0] [3, 4, 5, 6, 7, 0, 8, 2, 9, 10, 11, 12, 15, 16, 17, 18, 1, 19, 20, 21, 22, 13, 14, 1] rfl
set_option maxRecDepth 20000 in
theorem lkin_wsL_law_r13 : ∀ w ∈ wsL_law_r13, w ∈ lw_tbl := lk_in2 _ [4, 413, 8, 1, 0, 0, 0, 0, 0, 0, 0, 0, 375, 0, 155, 0, 0, 0, 0, 0, 0, 0, 0, 0] [3, 0, 1, 2, 4, 11, 5, 6, 7, 8, 9, 10, 16, 17, 12, 13, 14, 15, 18, 19, 20, 21, 22, 23] rfl (by decide +kernel)
set_option maxRecDepth 20000 in
theorem lkin_wsL_law_r14 : ∀ w ∈ wsL_law_r14, w ∈ lw_tbl := lk_in2 _ [23, 0, 72, 1, 1, 336, 0, 0, 0, 539, 0, 0, 1, 0, 0, 0, 0, 0, 0, 0, 0, 0, 0, 0] [1, 5, 17, 18, 19, 13, 14, 15, 16, 0, 2, 3, 4, 6, 7, 8, 9, 10, 11, 12, 20, 21, 22, 23] rfl (by decide +kernel)
set_option maxRecDepth 20000 in
theorem lkin_wsL_law_r15 : ∀ w ∈ wsL_law_r15, w ∈ lw_tbl := lk_in2 _ [129, 1, 1, 308, 0, 0, 0, 0, 0, 0, 0, 0, 0, 0, 0, 0, 0, 9, 0, 348, 181, 0, 0, 0] [5, 6, 4, 0, 1, 2, 3, 7, 13, 14, 15, 16, 17, 18, 19, 20, 21, 22, 23, 12, 8, 9, 10, 11] rfl (by decide +kernel)
set_option maxRecDepth 20000 in
theorem lkin_wsL_law_r16 : ∀ w ∈ wsL_law_r16, w ∈ lw_tbl := lk_in2 _ [5, 0, 73, 2, 372, 1, 0, 0, 1, 0, 0, 2, 0, 0, 0, 0, 529, 0, 0, 0, 0, 0, 0, 0] [4, 10, 7, 6, 2, 3, 5, 8, 9, 11, 12, 0, 1, 13, 14, 15, 16, 17, 18, 19, 20, 21, 22, 23] rfl (by decide +kernel)
set_option maxRecDepth 20000 in
theorem lkin_wsL_law_r17 : ∀ w ∈ wsL_law_r17, w ∈ lw_tbl := lk_in2 _ [472, 0, 0, 0, 0, 0, 0, 0, 0, 0, 0, 0, 0, 0, 0, 0, 521, 0, 0, 0, 0, 0, 0, 0] [0, 1, 2, 3, 4, 5, 6, 7, 10, 8, 9, 15, 16, 17, 18, 23, 11, 12, 13, 14, 19, 20, 21, 22] rfl (by decide +kernel)
set_option maxRecDepth 20000 in
theorem lkin_wsL_law_r18 : ∀ w ∈ wsL_law_r18, w ∈ lw_tbl := lk_in2 _ [178, 309, 0, 0, 0, 0, 0, 1, 0, 0, 0, 0, 0, 0, 0, 514, 0, 0, 0, 0, 0, 0, 0, 0] [3, 0, 1, 2, 4, 5, 6, 7, 8, 9, 10, 11, 12, 13, 14, 15, 16, 17, 18, 19, 20, 21, 22, 23] rfl (by decide +kernel)
set_option maxRecDepth 20000 in
theorem lkin_wsL_law_r19 : ∀ w ∈ wsL_law_r19, w ∈ lw_tbl := lk_in2 _ [25, 133, 16, 326, 0, 0, 0, 0, 0, 0, 0, 0, 306, 207, 0, 0, 0, 0, 1, 0, 0, 0, 0, 0] [13, 6, 5, 1, 2, 3, 4, 15, 16, 17, 18, 23, 0, 7, 8, 9, 10, 11, 12, 14, 19, 20, 21, 22] rfl (by decide +kernel)
set_option maxRecDepth 20000 in
theorem lkin_wsL_law_r20 : ∀ w ∈ wsL_law_r20, w ∈ lw_tbl := lk_in2 _ [180, 1, 1, 327, 0, 0, 0, 0, 0, 0, 0, 0, 304, 0, 211, 0, 0, 0, 0, 0, 0, 0, 0, 0] [11, 12, 13, 0, 1, 2, 7, 8, 9, 10, 22, 23, 20, 21, 3, 4, 5, 6, 14, 15, 16, 17, 18, 19] rfl (by decide +kernel)
set_option maxRecDepth 20000 in
theorem lkin_wsL_law_r21 : ∀ w ∈ wsL_law_r21, w ∈ lw_tbl := lk_in2 _ [7, 150, 27, 334, 0, 0, 0, 0, 0, 0, 1, 0, 0, 0, 0, 0, 0, 0, 0, 0, 0, 0, 0, 2] [9, 11, 2, 0, 1, 3, 4, 5, 6, 7, 8, 10, 12, 13, 14, 15, 17, 18, 19, 20, 21, 22, 23, 16] rfl (by decide +kernel)
set_option maxRecDepth 20000 in
theorem lkin_wsL_law_r22 : ∀ w ∈ wsL_law_r22, w ∈ lw_tbl := lk_in2 _ [8, 17, 515, 0, 1, 0, 0, 0, 0, 1, 0, 0, 0, 1, 0, 490, 0, 0, 0, 0, 1, 0, 0, 1] [12, 20, 0, 1, 2, 3, 4, 5, 6, 7, 8, 9, 10, 11, 13, 14, 15, 16, 17, 18, 19, 21, 22, 23] rfl (by decide +kernel)
set_option maxRecDepth 20000 in
theorem lkin_wsL_law_r23 : ∀ w ∈ wsL_law_r23, w ∈ lw_tbl := lk_in2 _ [9, 17, 0, 0, 528, 0, 0, 0, 0, 0, 0, 0, 0, 0, 1, 0, 488, 0, 1, 0, 0, 1, 0, 0] [21, 0, 4, 8, 10, 11, 12, 13, 14, 15, 16, 17, 18, 19, 20, 22, 1, 2, 3, 5, 6, 7, 9, 23] rfl (by decide +kernel)
set_option maxRecDepth 20000 in
theorem lkin_wsL_law_r24 : ∀ w ∈ wsL_law_r24, w ∈ lw_tbl := lk_in2 _ [30, 540, 0, 0, 0, 0, 0, 0, 0, 0, 0, 0, 487, 0, 0, 0, 1, 0, 0, 0, 0, 0, 0, 0] [5, 8, 9, 10, 11, 12, 13, 14, 15, 21, 22, 23, 0, 1, 2, 3, 4, 6, 7, 16, 17, 18, 19, 20] rfl (by decide +kernel)
set_option maxRecDepth 20000 in
theorem lkin_wsL_law_r25 : ∀ w ∈ wsL_law_r25, w ∈ lw_tbl := lk_in2 _ [10, 200, 370, 0, 0, 0, 0, 0, 1, 0, 0, 0, 0, 0, 0, 0, 0, 0, 231, 251, 0, 0, 0, 0] [8, 1, 0, 2, 3, 4, 5, 6, 7, 9, 10, 11, 12, 13, 20, 21, 22, 23, 19, 14, 15, 16, 17, 18] rfl (by decide +kernel)
set_option maxRecDepth 20000 in
theorem lkin_wsL_law_r26 : ∀ w ∈ wsL_law_r26, w ∈ lw_tbl := lk_in2 _ [31, 0, 180, 1, 1, 381, 0, 0, 0, 0, 483, 0, 0, 0, 0, 1, 0, 0, 0, 0, 0, 0, 1, 0] [8, 21, 0, 14, 1, 10, 11, 12, 13, 23, 2, 3, 4, 5, 6, 7, 9, 15, 16, 17, 18, 19, 20, 22] rfl (by decide +kernel)
set_option maxRecDepth 20000 in
theorem lkin_wsL_law_r27 : ∀ w ∈ wsL_law_r27, w ∈ lw_tbl := lk_in2 _ [11, 0, 208, 382, 0, 0, 0, 0, 0, 0, 0, 1, 0, 0, 1, 0, 0, 0, 0, 0, 0, 0, 0, 1] [10, 14, 3, 0, 1, 2, 4, 5, 6, 7, 8, 9, 11, 12, 13, 15, 16, 17, 18, 19, 20, 21, 22, 23] rfl (by decide +kernel)
set_option maxRecDepth 20000 in
theorem lkin_wsL_law_r28 : ∀ w ∈ wsL_law_r28, w ∈ lw_tbl := lk_in2 _ [13, 0, 0, 37, 574, 0, 0, 1, 0, 0, 1, 0, 0, 0, 0, 0, 0, 0, 459, 0, 0, 0, 0, 1] [0, 5, 9, 13, 1, 2, 3, 4, 6, 7, 8, 10, 11, 12, 14, 15, 16, 17, 18, 19, 20, 21, 22, 23] rfl (by decide +kernel)
set_option maxRecDepth 20000 in
theorem lkin_wsL_law_r29 : ∀ w ∈ wsL_law_r29, w ∈ lw_tbl := lk_in2 _ [33, 0, 0, 0, 182, 3, 420, 0, 0, 0, 462, 0, 1, 0, 0, 1, 0, 0, 1, 0, 0, 0, 0, 0] [0, 4, 8, 12, 18, 19, 14, 15, 16, 17, 1, 2, 3, 5, 6, 7, 9, 10, 11, 13, 20, 21, 22, 23] rfl (by decide +kernel)
set_option maxRecDepth 20000 in
theorem lkin_wsL_law_r30 : ∀ w ∈ wsL_law_r30, w ∈ lw_tbl := lk_in2 _ [37, 220, 1, 1, 1, 383, 0, 0, 0, 0, 0, 0, 0, 0, 182, 287, 0, 0, 0, 0, 0, 0, 1, 0] [21, 5, 6, 7, 8, 0, 1, 2, 3, 4, 9, 10, 11, 12, 23, 13, 14, 15, 16, 17, 18, 19, 20, 22] rfl (by decide +kernel)
set_option maxRecDepth 20000 in
theorem lkin_wsL_law_r31 : ∀ w ∈ wsL_law_r31, w ∈ lw_tbl := lk_in2 _ [16, 0, 0, 247, 390, 0, 0, 0, 0, 0, 0, 0, 1, 1, 0, 0, 0, 1, 0, 0, 1, 0, 0, 160] [12, 17, 21, 5, 1, 2, 3, 4, 6, 7, 8, 9, 10, 11, 13, 14, 15, 16, 18, 19, 20, 22, 23, 0] rfl (by decide +kernel)
set_option maxRecDepth 20000 in
theorem lkin_wsL_law_r32 : ∀ w ∈ wsL_law_r32, w ∈ lw_tbl := lk_in2 _ [19, 18, 229, 1, 409, 0, 1, 0, 0, 0, 0, 0, 0, 0, 0, 0, 0, 443, 0, 0, 0, 0, 1, 0] [5, 14, 20, 21, 0, 3, 4, 6, 7, 1, 2, 16, 17, 18, 19, 22, 23, 8, 9, 10, 11, 12, 13, 15] rfl (by decide +kernel)
set_option maxRecDepth 20000 in
theorem lkin_wsL_law_r33 : ∀ w ∈ wsL_law_r33, w ∈ lw_tbl := lk_in2 _ [296, 397, 0, 0, 0, 0, 0, 0, 0, 0, 0, 0, 0, 0, 0, 437, 0, 0, 0, 0, 0, 0, 0, 0] [19, 0, 1, 7, 8, 9, 10, 15, 16, 17, 18, 20, 21, 22, 23, 2, 3, 4, 5, 6, 11, 12, 13, 14] rfl (by decide +kernel)
set_option maxRecDepth 20000 in
theorem lkin_wsL_law_r34 : ∀ w ∈ wsL_law_r34, w ∈ lw_tbl := lk_in2 _ [298, 1, 407, 0, 0, 0, 0, 0, 0, 1, 0, 0, 0, 0, 122, 310, 0, 0, 0, 0, 0, 0, 0, 0] [9, 10, 5, 6, 7, 8, 11, 12, 13, 19, 20, 21, 22, 23, 4, 0, 1, 2, 3, 14, 15, 16, 17, 18] rfl (by decide +kernel)
set_option maxRecDepth 20000 in
theorem lkin_wsL_law_r35 : ∀ w ∈ wsL_law_r35, w ∈ lw_tbl := lk_in2 _ [721, 0, 0, 0, 0, 0, 0, 0, 0, 0, 0, 0, 0, 0, 0, 0, 0, 0, 424, 0, 0, 0, 0, 0] [0, 1, 2, 3, 4, 5, 10, 11, 12, 13, 14, 15, 16, 17, 18, 19, 20, 21, 6, 7, 8, 9, 22, 23] rfl (by decide +kernel)
set_option maxRecDepth 20000 in
theorem lkin_wsL_law_r36 : ∀ w ∈ wsL_law_r36, w ∈ lw_tbl := lk_in2 _ [739, 0, 0, 0, 0, 0, 0, 0, 0, 0, 0, 0, 0, 0, 0, 0, 0, 0, 0, 0, 0, 409, 0, 0] [2, 3, 4, 5, 6, 7, 8, 9, 10, 11, 12, 13, 14, 15, 16, 17, 18, 19, 20, 21, 22, 0, 1, 23] rfl (by decide +kernel)
set_option maxRecDepth 20000 in
theorem lkin_wsL_law_r37 : ∀ w ∈ wsL_law_r37, w ∈ lw_tbl := lk_in2 _ [39, 720, 0, 0, 0, 0, 0, 0, 0, 0, 0, 0, 0, 0, 399, 0, 0, 0, 1, 0, 0, 0, 0, 0] [5, 7, 8, 9, 10, 11, 12, 13, 14, 19, 20, 21, 22, 23, 0, 1, 2, 3, 4, 6, 15, 16, 17, 18] rfl (by decide +kernel)
set_option maxRecDepth 20000 in
theorem lkin_wsL_law_r38 : ∀ w ∈ wsL_law_r38, w ∈ lw_tbl := lk_in2 _ [20, 752, 0, 0, 0, 0, 0, 1, 0, 0, 0, 0, 0, 0, 0, 0, 0, 0, 0, 391, 0, 0, 0, 0] [7, 0, 1, 2, 4, 3, 5, 6, 8, 11, 9, 10, 17, 18, 19, 20, 21, 22, 23, 12, 13, 14, 15, 16] rfl (by decide +kernel)
set_option maxRecDepth 20000 in
theorem lkin_wsL_law_r39 : ∀ w ∈ wsL_law_r39, w ∈ lw_tbl := lk_in2 _ [792, 0, 0, 0, 0, 0, 0, 0, 0, 387, 0, 0, 0, 0, 0, 0, 0] [0, 5, 6, 7, 8, 9, 10, 11, 12, 1, 2, 3, 4, 13, 14, 15, 16] rfl (by decide +kernel)
set_option maxRecDepth 20000 in
theorem lkin_wsX90 : ∀ w ∈ wsX90, w ∈ lw_tbl := lk_in2 _ [335, 1, 1, 1, 1, 1, 1] [0, 1, 2, 3, 4, 5, 6] rfl (by decide +kernel)
set_option maxRecDepth 20000 in
theorem lkin_wsX100 : ∀ w ∈ wsX100, w ∈ lw_tbl := lk_in2 _ [850, 1, 1, 1, 1, 1, 1, 1, 1, 1, 1, 1, 1, 1, 1, 1, 1, 1, 1, 1, 1, 1, 1, 1, 1, 1, 1, 1, 1, 1, 1, 1, 1, 1, 1, 1, 1, 1, 1, 1, 1, 1] [0, 1, 2, 3, 4, 5, 6, 7, 8, 9, 10, 11, 12, 13, 14, 15, 16, 17, 18, 19, 20, 21, 22, 23, 24, 25, 26, 27, 28, 29, 30, 31, 32, 33, 34, 35, 36, 37, 38, 39, 40, 41] rfl (by decide +kernel)
set_option maxRecDepth 20000 in
theorem lkin_wsX00 : ∀ w ∈ wsX00, w ∈ lw_tbl := lk_in2 _ [104, 1, 1, 1, 1, 1, 1] [0, 1, 2, 3, 4, 5, 6] rfl (by decide +kernel)
set_option maxRecDepth 20000 in
theorem lkin_wsX10 : ∀ w ∈ wsX10, w ∈ lw_tbl := lk_in2 _ [135, 1, 1, 1] [0, 1, 2, 3] rfl (by decide +kernel)
set_option maxRecDepth 20000 in
theorem lkin_wsX30 : ∀ w ∈ wsX30, w ∈ lw_tbl := lk_in2 _ [188, 1, 1, 1, 1, 1, 1] [0, 1, 2, 3, 4, 5, 6] rfl (by decide +kernel)
set_option maxRecDepth 20000 in
theorem lkin_wsX50 : ∀ w ∈ wsX50, w ∈ lw_tbl := lk_in2 _ [227, 1, 1, 1, 1, 1, 1, 1, 1, 1] [0, 1, 2, 3, 4, 5, 6, 7, 8, 9] rfl (by decide +kernel)
set_option maxRecDepth 20000 in
theorem lkin_wsX60 : ∀ w ∈ wsX60, w ∈ lw_tbl := lk_in2 _ [272, 1, 1, 1, 1, 1, 1, 1] [0, 1, 2, 3, 4, 5, 6, 7] rfl (by decide +kernel)
set_option maxRecDepth 20000 in
theorem lkin_wsX80 : ∀ w ∈ wsX80, w ∈ lw_tbl := lk_in2 _ [302, 1, 1, 1] [0, 1, 2, 3] rfl (by decide +kernel)
set_option maxRecDepth 20000 in
theorem lkin_wsX70 : ∀ w ∈ wsX70, w ∈ lw_tbl := lk_in2 _ [321, 1, 1] [0, 1, 2] rfl (by decide +kernel)
set_option maxRecDepth 20000 in
theorem lkin_wsX40 : ∀ w ∈ wsX40, w ∈ lw_tbl := lk_in2 _ [85, 1] [0, 1] rfl (by decide +kernel)
set_option maxRecDepth 20000 in
theorem lkin_wsX20 : ∀ w ∈ wsX20, w ∈ lw_tbl := lk_in2 _ [164, 1, 1, 1, 1] [0, 1, 2, 3, 4] rfl (by decide +kernel)
theorem lk_app {a b t : List Cond} (ha : ∀ w ∈ a, w ∈ t) (hb : ∀ w ∈ b, w ∈ t) : ∀ w ∈ a ++ b, w ∈ t := fun w h => (List.mem_append.mp h).elim (ha w) (hb w)
theorem wsL_law_in : ∀ w ∈ wsL_law, w ∈ lw_tbl := (lk_app lkin_wsL_law_r1 (lk_app lkin_wsL_law_r2 (lk_app lkin_wsL_law_r3 (lk_app lkin_wsL_law_r4 (lk_app lkin_wsL_law_r5 (lk_app lkin_wsL_law_r6 (lk_app lkin_wsL_law_r7 (lk_app lkin_wsL_law_r8 (lk_app lkin_wsL_law_r9 (lk_app lkin_wsL_law_r10 (lk_app lkin_wsL_law_r11 (lk_app lkin_wsL_law_r12 (lk_app lkin_wsL_law_r13 (lk_app lkin_wsL_law_r14 (lk_app lkin_wsL_law_r15 (lk_app lkin_wsL_law_r16 (lk_app lkin_wsL_law_r17 (lk_app lkin_wsL_law_r18 (lk_app lkin_wsL_law_r19 (lk_app lkin_wsL_law_r20 (lk_app lkin_wsL_law_r21 (lk_app lkin_wsL_law_r22 (lk_app lkin_wsL_law_r23 (lk_app lkin_wsL_law_r24 (lk_app lkin_wsL_law_r25 (lk_app lkin_wsL_law_r26 (lk_app lkin_wsL_law_r27 (lk_app lkin_wsL_law_r28 (lk_app lkin_wsL_law_r29 (lk_app lkin_wsL_law_r30 (lk_app lkin_wsL_law_r31 (lk_app lkin_wsL_law_r32 (lk_app lkin_wsL_law_r33 (lk_app lkin_wsL_law_r34 (lk_app lkin_wsL_law_r35 (lk_app lkin_wsL_law_r36 (lk_app lkin_wsL_law_r37 (lk_app lkin_wsL_law_r38 (lk_app lkin_wsL_law_r39 (lk_app lkin_wsX90 (lk_app lkin_wsX100 (lk_app lkin_wsX00 (lk_app lkin_wsX10 (lk_app lkin_wsX30 (lk_app lkin_wsX50 (lk_app lkin_wsX60 (lk_app lkin_wsX80 (lk_app lkin_wsX70 (lk_app lkin_wsX40 (lk_app lkin_wsX20 (fun w h => absurd h List.not_mem_nil)))))))))))))))))))))))))))))))))))))))))))))))))))
theorem inlX0 : ∀ w ∈ wsX00, w ∈ wsL_law := fun _ h => List.mem_append_right _ (List.mem_append_right _ (List.mem_append_right _ (List.mem_append_right _ (List.mem_append_right _ (List.mem_append_right _ (List.mem_append_right _ (List.mem_append_right _ (List.mem_append_right _ (List.mem_append_right _ (List.mem_append_right _ (List.mem_append_right _ (List.mem_append_right _ (List.mem_append_right _ (List.mem_append_right _ (List.mem_append_right _ (List.mem_append_right _ (List.mem_append_right _ (List.mem_append_right _ (List.mem_append_right _ (List.mem_append_right _ (List.mem_append_right _ (List.mem_append_right _ (List.mem_append_right _ (List.mem_append_right _ (List.mem_append_right _ (List.mem_append_right _ (List.mem_append_right _ (List.mem_append_right _ (List.mem_append_right _ (List.mem_append_right _ (List.mem_append_right _ (List.mem_append_right _ (List.mem_append_right _ (List.mem_append_right _ (List.mem_append_right _ (List.mem_append_right _ (List.mem_append_right _ (List.mem_append_right _ (List.mem_append_right _ (List.mem_append_right _ (List.mem_append_left _ h)))))))))))))))))))))))))))))))))))))))))
theorem inX0 : ∀ w ∈ wsX00, w ∈ lw_tbl := fun w h => wsL_law_in w (inlX0 w h)
theorem inlX1 : ∀ w ∈ wsX10, w ∈ wsL_law := fun _ h => List.mem_append_right _ (List.mem_append_right _ (List.mem_append_right _ (List.mem_append_right _ (List.mem_append_right _ (List.mem_append_right _ (List.mem_append_right _ (List.mem_append_right _ (List.mem_append_right _ (List.mem_append_right _ (List.mem_append_right _ (List.mem_append_right _ (List.mem_append_right _ (List.mem_append_right _ (List.mem_append_right _ (List.mem_append_right _ (List.mem_append_right _ (List.mem_append_right _ (List.mem_append_right _ (List.mem_append_right _ (List.mem_append_right _ (List.mem_append_right _ (List.mem_append_right _ (List.mem_append_right _ (List.mem_append_right _ (List.mem_append_right _ (List.mem_append_right _ (List.mem_append_right _ (List.mem_append_right _ (List.mem_append_right _ (List.mem_append_right _ (List.mem_append_right _ (List.mem_append_right _ (List.mem_append_right _ (List.mem_append_right _ (List.mem_append_right _ (List.mem_append_right _ (List.mem_append_right _ (List.mem_append_right _ (List.mem_append_right _ (List.mem_append_right _ (List.mem_append_right _ (List.mem_append_left _ h))))))))))))))))))))))))))))))))))))))))))
theorem inX1 : ∀ w ∈ wsX10, w ∈ lw_tbl := fun w h => wsL_law_in w (inlX1 w h)
theorem inlX2 : ∀ w ∈ wsX20, w ∈ wsL_law := fun _ h => List.mem_append_right _ (List.mem_append_right _ (List.mem_append_right _ (List.mem_append_right _ (List.mem_append_right _ (List.mem_append_right _ (List.mem_append_right _ (List.mem_append_right _ (List.mem_append_right _ (List.mem_append_right _ (List.mem_append_right _ (List.mem_append_right _ (List.mem_append_right _ (List.mem_append_right _ (List.mem_append_right _ (List.mem_append_right _ (List.mem_append_right _ (List.mem_append_right _ (List.mem_append_right _ (List.mem_append_right _ (List.mem_append_right _ (List.mem_append_right _ (List.mem_append_right _ (List.mem_append_right _ (List.mem_append_right _ (List.mem_append_right _ (List.mem_append_right _ (List.mem_append_right _ (List.mem_append_right _ (List.mem_append_right _ (List.mem_append_right _ (List.mem_append_right _ (List.mem_append_right _ (List.mem_append_right _ (List.mem_append_right _ (List.mem_append_right _ (List.mem_append_right _ (List.mem_append_right _ (List.mem_append_right _ (List.mem_append_right _ (List.mem_append_right _ (List.mem_append_right _ (List.mem_append_right _ (List.mem_append_right _ (List.mem_append_right _ (List.mem_append_right _ (List.mem_append_right _ (List.mem_append_right _ (List.mem_append_right _ (List.mem_append_left _ h)))))))))))))))))))))))))))))))))))))))))))))))))
theorem inX2 : ∀ w ∈ wsX20, w ∈ lw_tbl := fun w h => wsL_law_in w (inlX2 w h)
theorem inlX3 : ∀ w ∈ wsX30, w ∈ wsL_law := fun _ h => List.mem_append_right _ (List.mem_append_right _ (List.mem_append_right _ (List.mem_append_right _ (List.mem_append_right _ (List.mem_append_right _ (List.mem_append_right _ (List.mem_append_right _ (List.mem_append_right _ (List.mem_append_right _ (List.mem_append_right _ (List.mem_append_right _ (List.mem_append_right _ (List.mem_append_right _ (List.mem_append_right _ (List.mem_append_right _ (List.mem_append_right _ (List.mem_append_right _ (List.mem_append_right _ (List.mem_append_right _ (List.mem_append_right _ (List.mem_append_right _ (List.mem_append_right _ (List.mem_append_right _ (List.mem_append_right _ (List.mem_append_right _ (List.mem_append_right _ (List.mem_append_right _ (List.mem_append_right _ (List.mem_append_right _ (List.mem_append_right _ (List.mem_append_right _ (List.mem_append_right _ (List.mem_append_right _ (List.mem_append_right _ (List.mem_append_right _ (List.mem_append_right _ (List.mem_append_right _ (List.mem_append_right _ (List.mem_append_right _ (List.mem_append_right _ (List.mem_append_right _ (List.mem_append_right _ (List.mem_append_left _ h)))))))))))))))))))))))))))))))))))))))))))
theorem inX3 : ∀ w ∈ wsX30, w ∈ lw_tbl := fun w h => wsL_law_in w (inlX3 w h)
theorem inlX4 : ∀ w ∈ wsX40, w ∈ wsL_law := fun _ h => List.mem_append_right _ (List.mem_append_right _ (List.mem_append_right _ (List.mem_append_right _ (List.mem_append_right _ (List.mem_append_right _ (List.mem_append_right _ (List.mem_append_right _ (List.mem_append_right _ (List.mem_append_right _ (List.mem_append_right _ (List.mem_append_right _ (List.mem_append_right _ (List.mem_append_right _ (List.mem_append_right _ (List.mem_append_right _ (List.mem_append_right _ (List.mem_append_right _ (List.mem_append_right _ (List.mem_append_right _ (List.mem_append_right _ (List.mem_append_right _ (List.mem_append_right _ (List.mem_append_right _ (List.mem_append_right _ (List.mem_append_right _ (List.mem_append_right _ (List.mem_append_right _ (List.mem_append_right _ (List.mem_append_right _ (List.mem_append_right _ (List.mem_append_right _ (List.mem_append_right _ (List.mem_append_right _ (List.mem_append_right _ (List.mem_append_right _ (List.mem_append_right _ (List.mem_append_right _ (List.mem_append_right _ (List.mem_append_right _ (List.mem_append_right _ (List.mem_append_right _ (List.mem_append_right _ (List.mem_append_right _ (List.mem_append_right _ (List.mem_append_right _ (List.mem_append_right _ (List.mem_append_right _ (List.mem_append_left _ h))))))))))))))))))))))))))))))))))))))))))))))))
theorem inX4 : ∀ w ∈ wsX40, w ∈ lw_tbl := fun w h => wsL_law_in w (inlX4 w h)
theorem inlX5 : ∀ w ∈ wsX50, w ∈ wsL_law := fun _ h => List.mem_append_right _ (List.mem_append_right _ (List.mem_append_right _ (List.mem_append_right _ (List.mem_append_right _ (List.mem_append_right _ (List.mem_append_right _ (List.mem_append_right _ (List.mem_append_right _ (List.mem_append_right _ (List.mem_append_right _ (List.mem_append_right _ (List.mem_append_right _ (List.mem_append_right _ (List.mem_append_right _ (List.mem_append_right _ (List.mem_append_right _ (List.mem_append_right _ (List.mem_append_right _ (List.mem_append_right _ (List.mem_append_right _ (List.mem_append_right _ (List.mem_append_right _ (List.mem_append_right _ (List.mem_append_right _ (List.mem_append_right _ (List.mem_append_right _ (List.mem_append_right _ (List.mem_append_right _ (List.mem_append_right _ (List.mem_append_right _ (List.mem_append_right _ (List.mem_append_right _ (List.mem_append_right _ (List.mem_append_right _ (List.mem_append_right _ (List.mem_append_right _ (List.mem_append_right _ (List.mem_append_right _ (List.mem_append_right _ (List.mem_append_right _ (List.mem_append_right _ (List.mem_append_right _ (List.mem_append_right _ (List.mem_append_left _ h))))))))))))))))))))))))))))))))))))))))))))
theorem inX5 : ∀ w ∈ wsX50, w ∈ lw_tbl := fun w h => wsL_law_in w (inlX5 w h)
theorem inlX6 : ∀ w ∈ wsX60, w ∈ wsL_law := fun _ h => List.mem_append_right _ (List.mem_append_right _ (List.mem_append_right _ (List.mem_append_right _ (List.mem_append_right _ (List.mem_append_right _ (List.mem_append_right _ (List.mem_append_right _ (List.mem_append_right _ (List.mem_append_right _ (List.mem_append_right _ (List.mem_append_right _ (List.mem_append_right _ (List.mem_append_right _ (List.mem_append_right _ (List.mem_append_right _ (List.mem_append_right _ (List.mem_append_right _ (List.mem_append_right _ (List.mem_append_right _ (List.mem_append_right _ (List.mem_append_right _ (List.mem_append_right _ (List.mem_append_right _ (List.mem_append_right _ (List.mem_append_right _ (List.mem_append_right _ (List.mem_append_right _ (List.mem_append_right _ (List.mem_append_right _ (List.mem_append_right _ (List.mem_append_right _ (List.mem_append_right _ (List.mem_append_right _ (List.mem_append_right _ (List.mem_append_right _ (List.mem_append_right _ (List.mem_append_right _ (List.mem_append_right _ (List.mem_append_right _ (List.mem_append_right _ (List.mem_append_right _ (List.mem_append_right _ (List.mem_append_right _ (List.mem_append_right _ (List.mem_append_left _ h)))))))))))))))))))))))))))))))))))))))))))))
theorem inX6 : ∀ w ∈ wsX60, w ∈ lw_tbl := fun w h => wsL_law_in w (inlX6 w h)
theorem inlX7 : ∀ w ∈ wsX70, w ∈ wsL_law := fun _ h => List.mem_append_right _ (List.mem_append_right _ (List.mem_append_right _ (List.mem_append_right _ (List.mem_append_right _ (List.mem_append_right _ (List.mem_append_right _ (List.mem_append_right _ (List.mem_append_right _ (List.mem_append_right _ (List.mem_append_right _ (List.mem_append_right _ (List.mem_append_right _ (List.mem_append_right _ (List.mem_append_right _ (List.mem_append_right _ (List.mem_append_right _ (List.mem_append_right _ (List.mem_append_right _ (List.mem_append_right _ (List.mem_append_right _ (List.mem_append_right _ (List.mem_append_right _ (List.mem_append_right _ (List.mem_append_right _ (List.mem_append_right _ (List.mem_append_right _ (List.mem_append_right _ (List.mem_append_right _ (List.mem_append_right _ (List.mem_append_right _ (List.mem_append_right _ (List.mem_append_right _ (List.mem_append_right _ (List.mem_append_right _ (List.mem_append_right _ (List.mem_append_right _ (List.mem_append_right _ (List.mem_append_right _ (List.mem_append_right _ (List.mem_append_right _ (List.mem_append_right _ (List.mem_append_right _ (List.mem_append_right _ (List.mem_append_right _ (List.mem_append_right _ (List.mem_append_right _ (List.mem_append_left _ h)))))))))))))))))))))))))))))))))))))))))))))))
theorem inX7 : ∀ w ∈ wsX70, w ∈ lw_tbl := fun w h => wsL_law_in w (inlX7 w h)
theorem inlX8 : ∀ w ∈ wsX80, w ∈ wsL_law := fun _ h => List.mem_append_right _ (List.mem_append_right _ (List.mem_append_right _ (List.mem_append_right _ (List.mem_append_right _ (List.mem_append_right _ (List.mem_append_right _ (List.mem_append_right _ (List.mem_append_right _ (List.mem_append_right _ (List.mem_append_right _ (List.mem_append_right _ (List.mem_append_right _ (List.mem_append_right _ (List.mem_append_right _ (List.mem_append_right _ (List.mem_append_right _ (List.mem_append_right _ (List.mem_append_right _ (List.mem_append_right _ (List.mem_append_right _ (List.mem_append_right _ (List.mem_append_right _ (List.mem_append_right _ (List.mem_append_right _ (List.mem_append_right _ (List.mem_append_right _ (List.mem_append_right _ (List.mem_append_right _ (List.mem_append_right _ (List.mem_append_right _ (List.mem_append_right _ (List.mem_append_right _ (List.mem_append_right _ (List.mem_append_right _ (List.mem_append_right _ (List.mem_append_right _ (List.mem_append_right _ (List.mem_append_right _ (List.mem_append_right _ (List.mem_append_right _ (List.mem_append_right _ (List.mem_append_right _ (List.mem_append_right _ (List.mem_append_right _ (List.mem_append_right _ (List.mem_append_left _ h))))))))))))))))))))))))))))))))))))))))))))))
theorem inX8 : ∀ w ∈ wsX80, w ∈ lw_tbl := fun w h => wsL_law_in w (inlX8 w h)
theorem inlX9 : ∀ w ∈ wsX90, w ∈ wsL_law := fun _ h => List.mem_append_right _ (List.mem_append_right _ (List.mem_append_right _ (List.mem_append_right _ (List.mem_append_right _ (List.mem_append_right _ (List.mem_append_right _ (List.mem_append_right _ (List.mem_append_right _ (List.mem_append_right _ (List.mem_append_right _ (List.mem_append_right _ (List.mem_append_right _ (List.mem_append_right _ (List.mem_append_right _ (List.mem_append_right _ (List.mem_append_right _ (List.mem_append_right _ (List.mem_append_right _ (List.mem_append_right _ (List.mem_append_right _ (List.mem_append_right _ (List.mem_append_right _ (List.mem_append_right _ (List.mem_append_right _ (List.mem_append_right _ (List.mem_append_right _ (List.mem_append_right _ (List.mem_append_right _ (List.mem_append_right _ (List.mem_append_right _ (List.mem_append_right _ (List.mem_append_right _ (List.mem_append_right _ (List.mem_append_right _ (List.mem_append_right _ (List.mem_append_right _ (List.mem_append_right _ (List.mem_append_right _ (List.mem_append_left _ h)))))))))))))))))))))))))))))))))))))))
theorem inX9 : ∀ w ∈ wsX90, w ∈ lw_tbl := fun w h => wsL_law_in w (inlX9 w h)
theorem inlX10 : ∀ w ∈ wsX100, w ∈ wsL_law := fun _ h => List.mem_append_right _ (List.mem_append_right _ (List.mem_append_right _ (List.mem_append_right _ (List.mem_append_right _ (List.mem_append_right _ (List.mem_append_right _ (List.mem_append_right _ (List.mem_append_right _ (List.mem_append_right _ (List.mem_append_right _ (List.mem_append_right _ (List.mem_append_right _ (List.mem_append_right _ (List.mem_append_right _ (List.mem_append_right _ (List.mem_append_right _ (List.mem_append_right _ (List.mem_append_right _ (List.mem_append_right _ (List.mem_append_right _ (List.mem_append_right _ (List.mem_append_right _ (List.mem_append_right _ (List.mem_append_right _ (List.mem_append_right _ (List.mem_append_right _ (List.mem_append_right _ (List.mem_append_right _ (List.mem_append_right _ (List.mem_append_right _ (List.mem_append_right _ (List.mem_append_right _ (List.mem_append_right _ (List.mem_append_right _ (List.mem_append_right _ (List.mem_append_right _ (List.mem_append_right _ (List.mem_append_right _ (List.mem_append_right _ (List.mem_append_left _ h))))))))))))))))))))))))))))))))))))))))
theorem inX10 : ∀ w ∈ wsX100, w ∈ lw_tbl := fun w h => wsL_law_in w (inlX10 w h)
theorem inJ6 : ∀ w ∈ wsJ60, w ∈ lw_tbl := by decide +kernel
theorem inJ9 : ∀ w ∈ wsJ90, w ∈ lw_tbl := by decide +kernel
