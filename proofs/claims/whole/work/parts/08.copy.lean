/-! SiblingJoins$Copy, and the static functions over marks and vectors -/
def gcov (f : Int → Int) (mark : Int) : Int := if mark % 1000 ≤ f (mark / 1000) then 1 else 0

set_option maxRecDepth 100000 in
set_option maxHeartbeats 4000000 in
theorem c_X4_covers {E : gEnv} {n : Nat} {σ : Option Nat} {h : gH} (a : Nat) (f : Int → Int) (mark : Int) (hb : gB E ≤ a ∧ a < gB E + n) (hq : h a = gI E 5 f) (hm : 0 ≤ mark ∧ mark < 5000) (hf : ∀ i : Int, 0 ≤ i → i < 5 → 0 ≤ f i ∧ f i < 1000) : gM E mX4_covers [.ref a, .int (gi mark)] n σ h (gD (some (.int (gi (gcov f mark)))) n σ (fun h9 => h9 = h)) (gNo) := by
  have hw := hf (mark / 1000) (by omega) (by omega)
  refine gM_of (by decide) (Nat.le_of_ble_eq_true rfl) (fun F C => ?_)
  refine g_iload_n 1 C dX4_covers_0 rfl rfl ?_
  refine g_sipush 4 C dX4_covers_1 (by decide) rfl ?_
  refine g_idiv 5 C dX4_covers_4 (by omega) (by omega) rfl ?_
  refine g_istore_n 6 [(2, _), (0, _), (1, _)] C dX4_covers_5 (by decide) rfl rfl ?_
  refine g_iload_n 7 C dX4_covers_6 rfl rfl ?_
  refine g_if_lt 31 10 C dX4_covers_7 rfl rfl (by omega) (fun c7 => ?_) (fun c7 => ?_)
  · skip
    exact absurd c7 (by omega)
  · skip
    refine g_iload_n 11 C dX4_covers_10 rfl rfl ?_
    refine g_aload_n 12 C dX4_covers_11 rfl rfl ?_
    refine g_alen 13 C dX4_covers_12 hb hq rfl rfl rfl ?_
    refine g_icmp_ge 31 16 C dX4_covers_13 rfl rfl (by omega) (by omega) (fun c13 => ?_) (fun c13 => ?_)
    · skip
      exact absurd c13 (by omega)
    · skip
      refine g_aload_n 17 C dX4_covers_16 rfl rfl ?_
      refine g_iload_n 18 C dX4_covers_17 rfl rfl ?_
      refine g_iald 19 C dX4_covers_18 hb hq (by omega) (by decide) rfl ?_
      refine g_iload_n 20 C dX4_covers_19 rfl rfl ?_
      refine g_sipush 23 C dX4_covers_20 (by decide) rfl ?_
      refine g_irem 24 C dX4_covers_23 (by omega) (by omega) rfl ?_
      refine g_icmp_lt 31 27 C dX4_covers_24 rfl rfl (by omega) (by omega) (fun c24 => ?_) (fun c24 => ?_)
      · skip
        have ec : gcov f mark = 0 := by unfold gcov; rw [if_neg (by omega)]
        refine g_iconst 32 C dX4_covers_31 rfl ?_
        exact g_zret C dX4_covers_32 rfl rfl ⟨by decide, by decide⟩ (by rw [ec]; exact ⟨rfl, rfl, rfl, rfl⟩)
      · skip
        have ec : gcov f mark = 1 := by unfold gcov; rw [if_pos (by omega)]
        refine g_iconst 28 C dX4_covers_27 rfl ?_
        refine g_goto 32 C dX4_covers_28 rfl ?_
        exact g_zret C dX4_covers_32 rfl rfl ⟨by decide, by decide⟩ (by rw [ec]; exact ⟨rfl, rfl, rfl, rfl⟩)
