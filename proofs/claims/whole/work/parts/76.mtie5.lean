/-! THE TIE 8: buttons exchanged -/
theorem MRel_swap {n g ca lv lm : Nat} {sk : Int32} {f m : Nat → Int32} (h : MRel n sk g f m) (hn : n ≤ 16) (hg : g < n) (hc : ca < 3) (hl : lv < n) (hm : lm < n) : MRel n sk g (swp f ((3 + ca) * 16 + lv) ((3 + ca) * 16 + lm)) (mxc ca lv lm m) := by
  have e1 := MRel_button (v := f ((3 + ca) * 16 + lm)) h hn hg hc hl
  have e2 := MRel_button (v := f ((3 + ca) * 16 + lv)) e1 hn hg hc hm
  unfold swp mxc
  rw [h.2.2.2.1 ca hc lm hm, h.2.2.2.1 ca hc lv hl]
  exact e2
