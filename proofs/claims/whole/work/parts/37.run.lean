/-! THE STACK MACHINE, purely: d deep, S its places, c the 80 cells of the result, r its ranges; ver, val the state that it reads *-/
def sm (val : Nat → Int32) (lo : Nat) : Nat → Int32
  | 0 => 0
  | n + 1 => sm val lo n + val (lo + n)
def ad_c (ver c : Nat → Int32) (r lo n : Nat) : Nat → Int32 := fun k => if 16 * (1 + r) + lo ≤ k ∧ k < 16 * (1 + r) + lo + n then ver (k - 16 * (1 + r)) else c k
def kb (x : Int32) : Nat := tn (x &&& 15)
theorem kb_lt (x : Int32) : kb x < 16 := by
  obtain ⟨j, hj, e⟩ := pk_andE x (m := 15) 4 (by decide)
  unfold kb
  rw [e, tn_nI (by omega)]
  exact hj
theorem kb_eq (x : Int32) : x &&& 15 = nI (kb x) := by
  obtain ⟨j, hj, e⟩ := pk_andE x (m := 15) 4 (by decide)
  unfold kb
  rw [e, tn_nI (by omega)]
abbrev rnT : Type := (Nat × (Nat → Int32) × (Nat → Int32) × Nat) × Nat
def rn_step (o : Nat) (x arg : Int32) (ver val : Nat → Int32) (d : Nat) (S c : Nat → Int32) (r : Nat) : Option rnT :=
  if o = 0 then (if d < 8 then some ((d + 1, upd S d x, c, r), 0) else none)
  else if o = 1 then (if d < 8 then some ((d + 1, upd S d arg, c, r), 0) else none)
  else if o = 2 then (if 2 ≤ d then some ((d - 1, upd S (d - 2) (S (d - 2) + S (d - 1)), c, r), 0) else none)
  else if o = 3 then (if 2 ≤ d then some ((d - 1, upd S (d - 2) (S (d - 2) - S (d - 1)), c, r), 0) else none)
  else if o = 4 then (if 2 ≤ d then some ((d - 1, upd S (d - 2) (if S (d - 2) < S (d - 1) then 1 else 0), c, r), 0) else none)
  else if o = 5 then (if 1 ≤ d ∧ d < 8 then some ((d + 1, upd S d (S (d - 1)), c, r), 0) else none)
  else if o = 6 then (if 1 ≤ d then some ((d - 1, S, c, r), if S (d - 1) = 0 then tn x else 0) else none)
  else if o = 7 then (if 1 ≤ d then some ((d, upd S (d - 1) (val (kb (S (d - 1)))), upd c (kb (S (d - 1))) (ver (kb (S (d - 1)))), r), 0) else none)
  else if o = 8 then (if 2 ≤ d then some ((d - 2, S, upd (upd c (48 + kb (S (d - 2))) 1) (64 + kb (S (d - 2))) (S (d - 1)), r), 0) else none)
  else if o = 9 then (if 1 ≤ d then some ((d - 1, S, upd (upd c (48 + kb (S (d - 1))) 2) (64 + kb (S (d - 1))) 0, r), 0) else none)
  else (if 2 ≤ d ∧ r < 2 then some ((d - 1, upd S (d - 2) (sm val (kb (S (d - 2))) (kb (S (d - 1)) + 1 - kb (S (d - 2)))), ad_c ver c r (kb (S (d - 2))) (kb (S (d - 1)) + 1 - kb (S (d - 2))), r + 1), 0) else none)
/-- the class's machine holds it -/
def rnC (im : Nat → Nat → Int32) (d : Nat) (S c : Nat → Int32) (r : Nat) : Prop := im 10 2 = nI d ∧ d ≤ 8 ∧ (∀ i, i < d → im 11 i = S i) ∧ (∀ k, k < 80 → im 13 k = c k) ∧ im 12 1 = nI r ∧ r ≤ 2
def rnF (im im' : Nat → Nat → Int32) : Prop := ∀ c, c < 10 ∨ 13 < c → im' c = im c
set_option maxRecDepth 20000 in
set_option maxHeartbeats 4000000 in
theorem c56 {LS : Nat} {rm : Nat → Nat → Option Nat} {im : Nat → Nat → Int32} {P : Option Value → (Nat → Nat → Int32) → Prop} {d : Nat} (hR : isRn LS rm 10) (hd : im 10 2 = nI d) (hb : d ≤ 8) (h0 : d = 0 → P (some (.int (nI 0))) (en_u2 im 10 4 1)) (h1 : 0 < d → P (some (.int (nI (kb (im 11 (d - 1)))))) (en_u2 im 10 2 (nI (d - 1)))) : Gm LS rm 56 0 (en_in 56 [.ref 10]) [] im P := by
  show Gm LS rm 56 0 [.ref (10)] [] im P
  refine g_aload_n k56_0 rfl ?_
  refine g_inv0 k56_1 (hR.1) (by decide) (Nat.le_of_ble_eq_true rfl) (c55 hR hd hb (fun hz => ?_) (fun hz => ?_))
  · refine g_bipush (v := 15) k56_4 bp_15 ?_
    refine g_iand k56_6 ?_
    refine g_top (y := nI 0) (by decide) ?_
    exact g_reti k56_7 rfl (h0 hz)
  · refine g_bipush (v := 15) k56_4 bp_15 ?_
    refine g_iand k56_6 ?_
    refine g_top (y := nI (kb (im 11 (d - 1)))) (kb_eq _) ?_
    exact g_reti k56_7 rfl (h1 hz)

set_option maxRecDepth 20000 in
set_option maxHeartbeats 4000000 in
theorem c50 {LS : Nat} {rm : Nat → Nat → Option Nat} {im : Nat → Nat → Int32} {P : Option Value → (Nat → Nat → Int32) → Prop} {d : Nat} (hR : isRn LS rm 10) (hd : im 10 2 = nI d) (hb : d ≤ 8) (hF : ¬ (1 ≤ d ∧ d < 8) → ∀ im', rnF im im' → im' 10 4 = 1 → P none im') (h1 : 1 ≤ d → d < 8 → P none (en_u2 (en_u2 (en_u2 (en_u2 (en_u2 im 10 2 (nI (d - 1))) 11 (d - 1) (im 11 (d - 1))) 10 2 (nI (d - 1 + 1))) 11 (d - 1 + 1) (im 11 (d - 1))) 10 2 (nI (d - 1 + 1 + 1)))) : Gm LS rm 50 0 (en_in 50 [.ref 10]) [] im P := by
  show Gm LS rm 50 0 [.ref (10), .long 0] [] im P
  refine g_aload_n k50_0 rfl ?_
  refine g_inv0 k50_1 (hR.1) (by decide) (Nat.le_of_ble_eq_true rfl) (c55 hR hd hb (fun hz => ?_) (fun hz => ?_))
  · subst hz
    refine g_istore_n k50_4 (by decide) rfl ?_
    refine g_aload_n k50_5 rfl ?_
    refine g_iload_n k50_6 rfl ?_
    refine g_inv1 k50_7 (hR.1) rfl (by decide) (Nat.le_of_ble_eq_true rfl) (c54 (d := 0) hR (by simp [en_u2, hd]) (by decide) (fun z => absurd z (by decide)) (fun _ => ?_))
    refine g_aload_n k50_10 rfl ?_
    refine g_iload_n k50_11 rfl ?_
    refine g_inv1 k50_12 (hR.1) rfl (by decide) (Nat.le_of_ble_eq_true rfl) (c54 (d := 1) hR (by simp [en_u2]) (by decide) (fun z => absurd z (by decide)) (fun _ => ?_))
    exact g_retv k50_15 rfl (hF (by omega) _ (fun c hc => by funext k; simp [en_u2, en_ur, show c ≠ 10 by omega, show c ≠ 11 by omega, show c ≠ 12 by omega, show c ≠ 13 by omega]) (by simp [en_u2, en_ur]))
  · refine g_istore_n k50_4 (by decide) rfl ?_
    refine g_aload_n k50_5 rfl ?_
    refine g_iload_n k50_6 rfl ?_
    refine g_inv1 k50_7 (hR.1) rfl (by decide) (Nat.le_of_ble_eq_true rfl) (c54 (d := d - 1) hR (by simp [en_u2]) (by omega) (fun z => by omega) (fun _ => ?_))
    refine g_aload_n k50_10 rfl ?_
    refine g_iload_n k50_11 rfl ?_
    refine g_inv1 k50_12 (hR.1) rfl (by decide) (Nat.le_of_ble_eq_true rfl) (c54 (d := d - 1 + 1) hR (by simp [en_u2]) (by omega) (fun z => ?_) (fun _ => ?_))
    · exact g_retv k50_15 rfl (hF (by omega) _ (fun c hc => by funext k; simp [en_u2, en_ur, show c ≠ 10 by omega, show c ≠ 11 by omega, show c ≠ 12 by omega, show c ≠ 13 by omega]) (by simp [en_u2, en_ur]))
    · exact g_retv k50_15 rfl (h1 hz (by omega))

set_option maxRecDepth 20000 in
set_option maxHeartbeats 4000000 in
theorem c49 {LS : Nat} {rm : Nat → Nat → Option Nat} {im : Nat → Nat → Int32} {P : Option Value → (Nat → Nat → Int32) → Prop} {d o : Nat} (hR : isRn LS rm 10) (ho : 2 ≤ o) (ho4 : o ≤ 4) (hd : im 10 2 = nI d) (hb : d ≤ 8) (hF : ¬ (2 ≤ d) → ∀ im', rnF im im' → im' 10 4 = 1 → P none im') (h1 : 2 ≤ d → P none (en_u2 (en_u2 (en_u2 (en_u2 im 10 2 (nI (d - 1))) 10 2 (nI (d - 2))) 11 (d - 2) (if o = 2 then im 11 (d - 2) + im 11 (d - 1) else if o = 3 then im 11 (d - 2) - im 11 (d - 1) else if im 11 (d - 2) < im 11 (d - 1) then 1 else 0)) 10 2 (nI (d - 2 + 1)))) : Gm LS rm 49 0 (en_in 49 [.ref 10, .int (nI o)]) [] im P := by
  show Gm LS rm 49 0 [.ref (10), .int (nI o), .long 0, .long 0] [] im P
  refine g_aload_n k49_0 rfl ?_
  refine g_inv0 k49_1 (hR.1) (by decide) (Nat.le_of_ble_eq_true rfl) (c55 hR hd hb (fun hz => ?_) (fun hz => ?_))
  · subst hz
    refine g_istore_n k49_4 (by decide) rfl ?_
    refine g_aload_n k49_5 rfl ?_
    refine g_inv0 k49_6 (hR.1) (by decide) (Nat.le_of_ble_eq_true rfl) (c55 (d := 0) hR (by simp [en_u2, hd]) (by decide) (fun _ => ?_) (fun z => absurd z (by decide)))
    refine g_istore_n k49_9 (by decide) rfl ?_
    refine g_iload_n k49_10 rfl ?_
    refine g_iconst (v := 2) k49_11 ic_2 ?_
    refine g_icmp_ne k49_12 (fun e2 => ?_) (fun e2 => ?_)
    · have o2 : o ≠ 2 := fun z => e2 (by rw [z]; rfl)
      refine g_iload_n k49_25 rfl ?_
      refine g_iconst (v := 3) k49_26 ic_3 ?_
      refine g_icmp_ne k49_27 (fun e3 => ?_) (fun e3 => ?_)
      · have o3 : o ≠ 3 := fun z => e3 (by rw [z]; rfl)
        refine g_aload_n k49_40 rfl ?_
        refine g_iload_n k49_41 rfl ?_
        refine g_iload_n k49_42 rfl ?_
        refine g_icmp_ge k49_43 (fun e4 => ?_) (fun e4 => ?_)
        · refine g_iconst (v := 0) k49_50 ic_0 ?_
          refine g_inv1 k49_51 (hR.1) rfl (by decide) (Nat.le_of_ble_eq_true rfl) (c54 (d := 0) hR (by simp [en_u2, hd]) (by decide) (fun z => absurd z (by decide)) (fun _ => ?_))
          exact g_retv k49_54 rfl (hF (by omega) _ (fun c hc => by funext k; simp [en_u2, en_ur, show c ≠ 10 by omega, show c ≠ 11 by omega, show c ≠ 12 by omega, show c ≠ 13 by omega]) (by simp [en_u2, en_ur]))
        · refine g_iconst (v := 1) k49_46 ic_1 ?_
          refine g_goto k49_47 ?_
          refine g_inv1 k49_51 (hR.1) rfl (by decide) (Nat.le_of_ble_eq_true rfl) (c54 (d := 0) hR (by simp [en_u2, hd]) (by decide) (fun z => absurd z (by decide)) (fun _ => ?_))
          exact g_retv k49_54 rfl (hF (by omega) _ (fun c hc => by funext k; simp [en_u2, en_ur, show c ≠ 10 by omega, show c ≠ 11 by omega, show c ≠ 12 by omega, show c ≠ 13 by omega]) (by simp [en_u2, en_ur]))
      · have o3 : o = 3 := (nI_eq (by omega) (by decide)).mp e3
        refine g_aload_n k49_30 rfl ?_
        refine g_iload_n k49_31 rfl ?_
        refine g_iload_n k49_32 rfl ?_
        refine g_isub k49_33 ?_
        refine g_inv1 k49_34 (hR.1) rfl (by decide) (Nat.le_of_ble_eq_true rfl) (c54 (d := 0) hR (by simp [en_u2, hd]) (by decide) (fun z => absurd z (by decide)) (fun _ => ?_))
        refine g_goto k49_37 ?_
        exact g_retv k49_54 rfl (hF (by omega) _ (fun c hc => by funext k; simp [en_u2, en_ur, show c ≠ 10 by omega, show c ≠ 11 by omega, show c ≠ 12 by omega, show c ≠ 13 by omega]) (by simp [en_u2, en_ur]))
    · have o2 : o = 2 := (nI_eq (by omega) (by decide)).mp e2
      refine g_aload_n k49_15 rfl ?_
      refine g_iload_n k49_16 rfl ?_
      refine g_iload_n k49_17 rfl ?_
      refine g_iadd k49_18 ?_
      refine g_inv1 k49_19 (hR.1) rfl (by decide) (Nat.le_of_ble_eq_true rfl) (c54 (d := 0) hR (by simp [en_u2, hd]) (by decide) (fun z => absurd z (by decide)) (fun _ => ?_))
      refine g_goto k49_22 ?_
      exact g_retv k49_54 rfl (hF (by omega) _ (fun c hc => by funext k; simp [en_u2, en_ur, show c ≠ 10 by omega, show c ≠ 11 by omega, show c ≠ 12 by omega, show c ≠ 13 by omega]) (by simp [en_u2, en_ur]))
  · refine g_istore_n k49_4 (by decide) rfl ?_
    refine g_aload_n k49_5 rfl ?_
    refine g_inv0 k49_6 (hR.1) (by decide) (Nat.le_of_ble_eq_true rfl) (c55 (d := d - 1) hR (by simp [en_u2]) (by omega) (fun hy => ?_) (fun hy => ?_))
    · refine g_istore_n k49_9 (by decide) rfl ?_
      refine g_iload_n k49_10 rfl ?_
      refine g_iconst (v := 2) k49_11 ic_2 ?_
      refine g_icmp_ne k49_12 (fun e2 => ?_) (fun e2 => ?_)
      · have o2 : o ≠ 2 := fun z => e2 (by rw [z]; rfl)
        refine g_iload_n k49_25 rfl ?_
        refine g_iconst (v := 3) k49_26 ic_3 ?_
        refine g_icmp_ne k49_27 (fun e3 => ?_) (fun e3 => ?_)
        · have o3 : o ≠ 3 := fun z => e3 (by rw [z]; rfl)
          refine g_aload_n k49_40 rfl ?_
          refine g_iload_n k49_41 rfl ?_
          refine g_iload_n k49_42 rfl ?_
          refine g_icmp_ge k49_43 (fun e4 => ?_) (fun e4 => ?_)
          · refine g_iconst (v := 0) k49_50 ic_0 ?_
            refine g_inv1 k49_51 (hR.1) rfl (by decide) (Nat.le_of_ble_eq_true rfl) (c54 (d := d - 1) hR (by simp [en_u2]) (by omega) (fun z => by omega) (fun _ => ?_))
            exact g_retv k49_54 rfl (hF (by omega) _ (fun c hc => by funext k; simp [en_u2, en_ur, show c ≠ 10 by omega, show c ≠ 11 by omega, show c ≠ 12 by omega, show c ≠ 13 by omega]) (by simp [en_u2, en_ur]))
          · refine g_iconst (v := 1) k49_46 ic_1 ?_
            refine g_goto k49_47 ?_
            refine g_inv1 k49_51 (hR.1) rfl (by decide) (Nat.le_of_ble_eq_true rfl) (c54 (d := d - 1) hR (by simp [en_u2]) (by omega) (fun z => by omega) (fun _ => ?_))
            exact g_retv k49_54 rfl (hF (by omega) _ (fun c hc => by funext k; simp [en_u2, en_ur, show c ≠ 10 by omega, show c ≠ 11 by omega, show c ≠ 12 by omega, show c ≠ 13 by omega]) (by simp [en_u2, en_ur]))
        · have o3 : o = 3 := (nI_eq (by omega) (by decide)).mp e3
          refine g_aload_n k49_30 rfl ?_
          refine g_iload_n k49_31 rfl ?_
          refine g_iload_n k49_32 rfl ?_
          refine g_isub k49_33 ?_
          refine g_inv1 k49_34 (hR.1) rfl (by decide) (Nat.le_of_ble_eq_true rfl) (c54 (d := d - 1) hR (by simp [en_u2]) (by omega) (fun z => by omega) (fun _ => ?_))
          refine g_goto k49_37 ?_
          exact g_retv k49_54 rfl (hF (by omega) _ (fun c hc => by funext k; simp [en_u2, en_ur, show c ≠ 10 by omega, show c ≠ 11 by omega, show c ≠ 12 by omega, show c ≠ 13 by omega]) (by simp [en_u2, en_ur]))
      · have o2 : o = 2 := (nI_eq (by omega) (by decide)).mp e2
        refine g_aload_n k49_15 rfl ?_
        refine g_iload_n k49_16 rfl ?_
        refine g_iload_n k49_17 rfl ?_
        refine g_iadd k49_18 ?_
        refine g_inv1 k49_19 (hR.1) rfl (by decide) (Nat.le_of_ble_eq_true rfl) (c54 (d := d - 1) hR (by simp [en_u2]) (by omega) (fun z => by omega) (fun _ => ?_))
        refine g_goto k49_22 ?_
        exact g_retv k49_54 rfl (hF (by omega) _ (fun c hc => by funext k; simp [en_u2, en_ur, show c ≠ 10 by omega, show c ≠ 11 by omega, show c ≠ 12 by omega, show c ≠ 13 by omega]) (by simp [en_u2, en_ur]))
    · refine g_istore_n k49_9 (by decide) rfl ?_
      have h1 := h1 (by omega)
      have ed : d - 1 - 1 = d - 2 := by omega
      rw [ed]
      rw [u2_ne (by omega)]
      refine g_iload_n k49_10 rfl ?_
      refine g_iconst (v := 2) k49_11 ic_2 ?_
      refine g_icmp_ne k49_12 (fun e2 => ?_) (fun e2 => ?_)
      · have o2 : o ≠ 2 := fun z => e2 (by rw [z]; rfl)
        refine g_iload_n k49_25 rfl ?_
        refine g_iconst (v := 3) k49_26 ic_3 ?_
        refine g_icmp_ne k49_27 (fun e3 => ?_) (fun e3 => ?_)
        · have o3 : o ≠ 3 := fun z => e3 (by rw [z]; rfl)
          refine g_aload_n k49_40 rfl ?_
          refine g_iload_n k49_41 rfl ?_
          refine g_iload_n k49_42 rfl ?_
          refine g_icmp_ge k49_43 (fun e4 => ?_) (fun e4 => ?_)
          · refine g_iconst (v := 0) k49_50 ic_0 ?_
            refine g_inv1 k49_51 (hR.1) rfl (by decide) (Nat.le_of_ble_eq_true rfl) (c54 (d := d - 2) hR (by simp [en_u2]) (by omega) (fun z => by omega) (fun _ => ?_))
            rw [if_neg o2, if_neg o3, if_neg (Int32.not_lt.mpr e4)] at h1
            exact g_retv k49_54 rfl (h1)
          · refine g_iconst (v := 1) k49_46 ic_1 ?_
            refine g_goto k49_47 ?_
            refine g_inv1 k49_51 (hR.1) rfl (by decide) (Nat.le_of_ble_eq_true rfl) (c54 (d := d - 2) hR (by simp [en_u2]) (by omega) (fun z => by omega) (fun _ => ?_))
            rw [if_neg o2, if_neg o3, if_pos (Int32.not_le.mp e4)] at h1
            exact g_retv k49_54 rfl (h1)
        · have o3 : o = 3 := (nI_eq (by omega) (by decide)).mp e3
          refine g_aload_n k49_30 rfl ?_
          refine g_iload_n k49_31 rfl ?_
          refine g_iload_n k49_32 rfl ?_
          refine g_isub k49_33 ?_
          refine g_inv1 k49_34 (hR.1) rfl (by decide) (Nat.le_of_ble_eq_true rfl) (c54 (d := d - 2) hR (by simp [en_u2]) (by omega) (fun z => by omega) (fun _ => ?_))
          refine g_goto k49_37 ?_
          rw [if_neg o2, if_pos o3] at h1
          exact g_retv k49_54 rfl (h1)
      · have o2 : o = 2 := (nI_eq (by omega) (by decide)).mp e2
        refine g_aload_n k49_15 rfl ?_
        refine g_iload_n k49_16 rfl ?_
        refine g_iload_n k49_17 rfl ?_
        refine g_iadd k49_18 ?_
        refine g_inv1 k49_19 (hR.1) rfl (by decide) (Nat.le_of_ble_eq_true rfl) (c54 (d := d - 2) hR (by simp [en_u2]) (by omega) (fun z => by omega) (fun _ => ?_))
        refine g_goto k49_22 ?_
        rw [if_pos o2] at h1
        exact g_retv k49_54 rfl (h1)

set_option maxRecDepth 20000 in
set_option maxHeartbeats 4000000 in
theorem c52 {LS : Nat} {rm : Nat → Nat → Option Nat} {im : Nat → Nat → Int32} {P : Option Value → (Nat → Nat → Int32) → Prop} {d s : Nat} (hR : isRn LS rm 10) (hS : isWS LS rm s) (hs : 13 < s) (hd : im 10 2 = nI d) (hb : d ≤ 8) (hF : ¬ (1 ≤ d) → ∀ im', rnF im im' → im' 10 4 = 1 → P none im') (h1 : 1 ≤ d → P none (en_u2 (en_u2 (en_u2 (en_u2 im 10 2 (nI (d - 1))) 13 (kb (im 11 (d - 1))) (im (s + 1) (kb (im 11 (d - 1))))) 11 (d - 1) (im (s + 2) (kb (im 11 (d - 1))))) 10 2 (nI (d - 1 + 1)))) : Gm LS rm 52 0 (en_in 52 [.ref 10, .ref s]) [] im P := by
  show Gm LS rm 52 0 [.ref (10), .ref (s), .long 0] [] im P
  refine g_aload_n k52_0 rfl ?_
  refine g_inv0 k52_1 (hR.1) (by decide) (Nat.le_of_ble_eq_true rfl) (c56 hR hd hb (fun hz => ?_) (fun hz => ?_))
  · subst hz
    refine g_istore_n k52_4 (by decide) rfl ?_
    refine g_aload_n k52_5 rfl ?_
    refine g_getr k52_6 (hR.1) (by decide) (hR.2.2.1) ?_
    refine g_iconst (v := 0) k52_9 ic_0 ?_
    refine g_iload_n k52_10 rfl ?_
    refine g_aload_n k52_11 rfl ?_
    refine g_getr k52_12 (hS.1) (by decide) (hS.2.1) ?_
    refine g_iload_n k52_15 rfl ?_
    refine g_ialv k52_16 (hS.2.2.2.1) (by decide) (by decide) (rfl) ?_
    refine g_inv3 k52_17 (hR.2.2.2.2.1) rfl rfl rfl (by decide) (Nat.le_of_ble_eq_true rfl) (c61 (a := 12) (r := 0) (k := 0) hR.2.2.2.2 (by decide) ?_)
    refine g_aload_n k52_20 rfl ?_
    refine g_aload_n k52_21 rfl ?_
    refine g_getr k52_22 (hS.1) (by decide) (hS.2.2.1) ?_
    refine g_iload_n k52_25 rfl ?_
    refine g_ialv k52_26 (hS.2.2.2.2) (by decide) (by decide) (rfl) ?_
    refine g_inv1 k52_27 (hR.1) rfl (by decide) (Nat.le_of_ble_eq_true rfl) (c54 (d := 0) hR (by simp [en_u2, hd]) (by decide) (fun z => absurd z (by decide)) (fun _ => ?_))
    exact g_retv k52_30 rfl (hF (by omega) _ (fun c hc => by funext k; simp [en_u2, en_ur, show c ≠ 10 by omega, show c ≠ 11 by omega, show c ≠ 12 by omega, show c ≠ 13 by omega]) (by simp [en_u2, en_ur]))
  · have hk := kb_lt (im 11 (d - 1))
    refine g_istore_n k52_4 (by decide) rfl ?_
    refine g_aload_n k52_5 rfl ?_
    refine g_getr k52_6 (hR.1) (by decide) (hR.2.2.1) ?_
    refine g_iconst (v := 0) k52_9 ic_0 ?_
    refine g_iload_n k52_10 rfl ?_
    refine g_aload_n k52_11 rfl ?_
    refine g_getr k52_12 (hS.1) (by decide) (hS.2.1) ?_
    refine g_iload_n k52_15 rfl ?_
    refine g_ialv (v := im (s + 1) (kb (im 11 (d - 1)))) k52_16 (hS.2.2.2.1) (hk) (by decide) (by rw [u2_ne (by omega)]) ?_
    refine g_inv3 k52_17 (hR.2.2.2.2.1) rfl rfl rfl (by decide) (Nat.le_of_ble_eq_true rfl) (c61 (a := 12) (r := 0) (k := kb (im 11 (d - 1))) hR.2.2.2.2 (by omega) ?_)
    rw [show 16 * 0 + kb (im 11 (d - 1)) = kb (im 11 (d - 1)) by omega]
    refine g_aload_n k52_20 rfl ?_
    refine g_aload_n k52_21 rfl ?_
    refine g_getr k52_22 (hS.1) (by decide) (hS.2.2.1) ?_
    refine g_iload_n k52_25 rfl ?_
    refine g_ialv (v := im (s + 2) (kb (im 11 (d - 1)))) k52_26 (hS.2.2.2.2) (hk) (by decide) (by rw [u2_ne (by omega), u2_ne (by omega)]) ?_
    refine g_inv1 k52_27 (hR.1) rfl (by decide) (Nat.le_of_ble_eq_true rfl) (c54 (d := d - 1) hR (by simp [en_u2]) (by omega) (fun z => by omega) (fun _ => ?_))
    exact g_retv k52_30 rfl (h1 hz)

