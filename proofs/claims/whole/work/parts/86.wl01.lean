/-! numbers: walls are 0 or 1 -/
theorem wl01.wr {W y lx : Nat} {bv : Int32} {wl : Nat → Int32} (h : wl01 wl) (hb : bv = 0 ∨ bv = 1) : ∀ k, wl01 (wr W bv y lx wl k)
  | 0 => h
  | k + 1 => fun f => by
    show upd _ _ _ f = 0 ∨ upd _ _ _ f = 1
    unfold upd
    by_cases e : f = y * W + (lx + k)
    · rw [if_pos e]; exact hb
    · rw [if_neg e]; exact wl01.wr h hb k f
theorem wl01.wq {W lx n ty : Nat} {bv : Int32} {wl : Nat → Int32} (h : wl01 wl) (hb : bv = 0 ∨ bv = 1) : ∀ k, wl01 (wq W bv lx n ty wl k)
  | 0 => h
  | k + 1 => wl01.wr (wl01.wq h hb k) hb n
theorem wl01.wlX {W a b a2 b2 : Nat} {bv : Int32} {wl : Nat → Int32} (h : wl01 wl) : wl01 (wlX W bv a b a2 b2 wl) := wl01.wq h (by split <;> simp) _
theorem wl01_new : wl01 (fun _ => 0) := fun _ => Or.inl rfl
