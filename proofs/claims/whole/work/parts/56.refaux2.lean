section
variable {N k f : Nat} {sm gv gr : Nat → Nat} {rc rc1 rc2 : Nat → Int32} {b b2 : Bool}
def pq_tg (N : Nat) (sm gv : Nat → Nat) (b : Bool) (n : Nat) (rc : Nat → Int32) : Nat → Int32 := match b with
  | true => pq_run N sm gv n rc
  | false => rc
theorem pq_tg0 {n : Nat} {T : Nat → Int32} (h : pq_tg N sm gv b n rc = T) (hn : n = 0) : rc = T := by
  subst hn
  cases b <;> exact h
theorem pq_run_s {i : Nat} {T : Nat → Int32} (hE : (rc2, b2) = pq_k sm gv N (rc1, false)) (hi : i ≤ N) (h : pq_tg N sm gv true (N + 1 - i) rc1 = T) : pq_tg N sm gv b2 (N + 1 - (i + 1)) rc2 = T := by
  rw [← h, show N + 1 - i = (N + 1 - (i + 1)) + 1 by omega]
  simp only [pq_tg, pq_run]
  rw [← hE]
  cases b2 with
  | true => rw [if_pos rfl]
  | false => rw [if_neg (fun q => by cases q)]
theorem pq_f1 (h : rc k = 0) : (rc, b) = pq_f gv k f (rc, b) := by
  simp only [pq_f]; rw [if_pos h]
theorem pq_f2 (h : ¬ rc k = 0) (h2 : gv f = 0) : (rc, b) = pq_f gv k f (rc, b) := by
  simp only [pq_f]; rw [if_neg h, if_pos h2]
theorem pq_f3 (h : ¬ rc k = 0) (h2 : 0 < gv f) (h3 : ¬ rc (gv f - 1) = 0) : (rc, b) = pq_f gv k f (rc, b) := by
  simp only [pq_f]; rw [if_neg h, if_neg (by omega), if_neg h3]
theorem pq_f4 (h : ¬ rc k = 0) (h2 : 0 < gv f) (h3 : rc (gv f - 1) = 0) : (upd rc (gv f - 1) 1, true) = pq_f gv k f (rc, b) := by
  simp only [pq_f]; rw [if_neg h, if_neg (by omega), if_pos h3]
theorem pq_r0 {i : Nat} (h : gr i = 0) : pq_rt gr (i + 1) rc = pq_rt gr i rc := by
  simp only [pq_rt, pq_set]; rw [if_pos h]
theorem pq_r1 {i : Nat} (h : 0 < gr i) : upd (pq_rt gr i rc) (gr i - 1) 1 = pq_rt gr (i + 1) rc := by
  simp only [pq_rt, pq_set]; rw [if_neg (by omega)]
theorem pm_cnt_s0 {f : Nat → Int32} {k : Nat} (h : f k = 0) : pm_cnt f (k + 1) = pm_cnt f k := by simp only [pm_cnt]; rw [if_pos h, Nat.add_zero]
theorem pm_cnt_s1 {f : Nat → Int32} {k : Nat} (h : ¬ f k = 0) : pm_cnt f (k + 1) = pm_cnt f k + 1 := by simp only [pm_cnt]; rw [if_neg h]
theorem pm_le0 {v : Nat} (hv : v < 2 ^ 31) (h : nI v ≤ 0) : v = 0 := Classical.byContradiction (fun q => absurd h (nI_nle (by omega) hv))
theorem pm_gt0 {v : Nat} (h : ¬ nI v ≤ 0) : 0 < v := Nat.pos_of_ne_zero (fun q => h (by rw [q]; decide +kernel))
end
