def sg0 : Sto := fun r i => if r = 0 then (if i = 11 then 1 else 0) else if r = 19 ∨ r = 25 ∨ r = 31 ∨ r = 37 then stV 2 i else if r = 72 then (if i = 585 then 40 else if i = 586 then 8 else if i = 587 then 5 else if i = 588 then 1 else 0) else if r = 79 then ([0, 3, 8, 11, 18, 25, 28, 31, 35, 41] : List Int).getD i.toNat 0 else if r = 80 then namL.getD i.toNat 0 else 0
def posL : List Nat := [0, 1, 2, 3, 4, 5, 6, 7, 14, 15, 16, 17, 18, 19, 8, 9, 10, 11, 12, 13, 20, 21, 22, 23, 24, 25, 59, 60, 61, 62, 63, 64, 65, 66, 67, 68, 69, 70, 26, 27, 28, 29, 30, 31, 32, 33, 34, 35, 36, 37, 38, 39, 40, 41, 42, 43, 44, 45, 46, 47, 48, 49, 50, 51, 52, 53, 54, 55, 56, 57, 58, 71, 72, 73, 74, 75, 76, 77, 78, 79, 80, 81, 82, 83, 84, 85, 86, 87, 88, 89, 90, 91]
abbrev W0 (g : GG) (k : KG) : va_W := WX6 k (gad g 0) (gad g 1) (gad g 2) (gad g 3) (gad g 4) (gad g 5) (gad g 6) (gad g 7) (gad g 14) (gad g 15) (gad g 16) (gad g 17) (gad g 18) (gad g 19) (gad g 8) (gad g 9) (gad g 10) (gad g 11) (gad g 12) (gad g 13) (gad g 20) (gad g 21) (gad g 22) (gad g 23) (gad g 24) (gad g 25) (gad g 38) (gad g 39) (gad g 40) (gad g 41) (gad g 42) (gad g 43) (gad g 44) (gad g 45) (gad g 46) (gad g 47) (gad g 48) (gad g 49) (gad g 50) (gad g 51) (gad g 52) (gad g 53) (gad g 54) (gad g 55) (gad g 56) (gad g 57) (gad g 58) (gad g 59) (gad g 60) (gad g 61) (gad g 62) (gad g 63) (gad g 64) (gad g 65) (gad g 66) (gad g 67) (gad g 68) (gad g 69) (gad g 70) (gad g 26) (gad g 27) (gad g 28) (gad g 29) (gad g 30) (gad g 31) (gad g 32) (gad g 33) (gad g 34) (gad g 35) (gad g 36) (gad g 37) ++ WX7 k (gad g 71) (gad g 72) (gad g 73) (gad g 74) (gad g 75) (gad g 76) (gad g 77) (gad g 78) (gad g 79) (gad g 80) (gad g 81) (gad g 82) (gad g 83) (gad g 84) (gad g 85) (gad g 86) (gad g 87) (gad g 88) (gad g 89) (gad g 90) (gad g 91)
set_option maxHeartbeats 4000000 in
set_option maxRecDepth 100000 in
theorem cel_arr {g : GG} {σ : Sto} {r kk n : Nat} {f : Nat → Int32} (h1 : kd r = kk) (h2 : ¬ kk < 100) (h3 : ln r = n) (h4 : ∀ j : Nat, Int32.ofInt (σ r (j : Int)) = f j) : cel g σ r = .inl (gcA g kk, n, .inl f) := by
  rw [cel, h1, if_neg h2, h3, show (fun i : Nat => Int32.ofInt (σ r (i : Int))) = f from funext h4]
set_option maxHeartbeats 4000000 in
set_option maxRecDepth 100000 in
theorem cel_obj {g : GG} {σ : Sto} {r ci : Nat} {fs : List Value} (h1 : kd r = ci) (h2 : ci < 100) (h3 : fsO g σ r = fs) : cel g σ r = .inr (ci, fs) := by
  rw [cel, h1, if_pos h2, h3]
set_option maxHeartbeats 4000000 in
set_option maxRecDepth 100000 in
theorem w0_0 (g : GG) (t z : Nat) : (W0 g (gD g, gI g, gB g, gZ g, t, z))[0]? = some (gad g 0, cel g sg0 0) := by
  rw [cel_obj (σ := sg0) (r := 0) (ci := 6) (by decide) (by decide) rfl]
  rfl
set_option maxHeartbeats 4000000 in
set_option maxRecDepth 100000 in
theorem w0_1 (g : GG) (t z : Nat) : (W0 g (gD g, gI g, gB g, gZ g, t, z))[1]? = some (gad g 1, cel g sg0 1) := by
  rw [cel_arr (σ := sg0) (r := 1) (kk := 101) (n := 400) (f := fun _ => 0) (by decide) (by decide) (by decide) (fun j => rfl)]
  rfl
set_option maxHeartbeats 4000000 in
set_option maxRecDepth 100000 in
theorem w0_2 (g : GG) (t z : Nat) : (W0 g (gD g, gI g, gB g, gZ g, t, z))[2]? = some (gad g 2, cel g sg0 2) := by
  rw [cel_obj (σ := sg0) (r := 2) (ci := 5) (by decide) (by decide) rfl]
  rfl
set_option maxHeartbeats 4000000 in
set_option maxRecDepth 100000 in
theorem w0_3 (g : GG) (t z : Nat) : (W0 g (gD g, gI g, gB g, gZ g, t, z))[3]? = some (gad g 3, cel g sg0 3) := by
  rw [cel_arr (σ := sg0) (r := 3) (kk := 100) (n := 6) (f := fun _ => 0) (by decide) (by decide) (by decide) (fun j => rfl)]
  rfl
set_option maxHeartbeats 4000000 in
set_option maxRecDepth 100000 in
theorem w0_4 (g : GG) (t z : Nat) : (W0 g (gD g, gI g, gB g, gZ g, t, z))[4]? = some (gad g 4, cel g sg0 4) := by
  rw [cel_arr (σ := sg0) (r := 4) (kk := 100) (n := 6) (f := fun _ => 0) (by decide) (by decide) (by decide) (fun j => rfl)]
  rfl
set_option maxHeartbeats 4000000 in
set_option maxRecDepth 100000 in
theorem w0_5 (g : GG) (t z : Nat) : (W0 g (gD g, gI g, gB g, gZ g, t, z))[5]? = some (gad g 5, cel g sg0 5) := by
  rw [cel_arr (σ := sg0) (r := 5) (kk := 100) (n := 6) (f := fun _ => 0) (by decide) (by decide) (by decide) (fun j => rfl)]
  rfl
set_option maxHeartbeats 4000000 in
set_option maxRecDepth 100000 in
theorem w0_6 (g : GG) (t z : Nat) : (W0 g (gD g, gI g, gB g, gZ g, t, z))[6]? = some (gad g 6, cel g sg0 6) := by
  rw [cel_arr (σ := sg0) (r := 6) (kk := 100) (n := 48) (f := fun _ => 0) (by decide) (by decide) (by decide) (fun j => rfl)]
  rfl
set_option maxHeartbeats 4000000 in
set_option maxRecDepth 100000 in
theorem w0_7 (g : GG) (t z : Nat) : (W0 g (gD g, gI g, gB g, gZ g, t, z))[7]? = some (gad g 7, cel g sg0 7) := by
  rw [cel_arr (σ := sg0) (r := 7) (kk := 100) (n := 48) (f := fun _ => 0) (by decide) (by decide) (by decide) (fun j => rfl)]
  rfl
set_option maxHeartbeats 4000000 in
set_option maxRecDepth 100000 in
theorem w0_8 (g : GG) (t z : Nat) : (W0 g (gD g, gI g, gB g, gZ g, t, z))[14]? = some (gad g 8, cel g sg0 8) := by
  rw [cel_obj (σ := sg0) (r := 8) (ci := 5) (by decide) (by decide) rfl]
  rfl
set_option maxHeartbeats 4000000 in
set_option maxRecDepth 100000 in
theorem w0_9 (g : GG) (t z : Nat) : (W0 g (gD g, gI g, gB g, gZ g, t, z))[15]? = some (gad g 9, cel g sg0 9) := by
  rw [cel_arr (σ := sg0) (r := 9) (kk := 100) (n := 6) (f := fun _ => 0) (by decide) (by decide) (by decide) (fun j => rfl)]
  rfl
set_option maxHeartbeats 4000000 in
set_option maxRecDepth 100000 in
theorem w0_10 (g : GG) (t z : Nat) : (W0 g (gD g, gI g, gB g, gZ g, t, z))[16]? = some (gad g 10, cel g sg0 10) := by
  rw [cel_arr (σ := sg0) (r := 10) (kk := 100) (n := 6) (f := fun _ => 0) (by decide) (by decide) (by decide) (fun j => rfl)]
  rfl
set_option maxHeartbeats 4000000 in
set_option maxRecDepth 100000 in
theorem w0_11 (g : GG) (t z : Nat) : (W0 g (gD g, gI g, gB g, gZ g, t, z))[17]? = some (gad g 11, cel g sg0 11) := by
  rw [cel_arr (σ := sg0) (r := 11) (kk := 100) (n := 6) (f := fun _ => 0) (by decide) (by decide) (by decide) (fun j => rfl)]
  rfl
set_option maxHeartbeats 4000000 in
set_option maxRecDepth 100000 in
theorem w0_12 (g : GG) (t z : Nat) : (W0 g (gD g, gI g, gB g, gZ g, t, z))[18]? = some (gad g 12, cel g sg0 12) := by
  rw [cel_arr (σ := sg0) (r := 12) (kk := 100) (n := 48) (f := fun _ => 0) (by decide) (by decide) (by decide) (fun j => rfl)]
  rfl
set_option maxHeartbeats 4000000 in
set_option maxRecDepth 100000 in
theorem w0_13 (g : GG) (t z : Nat) : (W0 g (gD g, gI g, gB g, gZ g, t, z))[19]? = some (gad g 13, cel g sg0 13) := by
  rw [cel_arr (σ := sg0) (r := 13) (kk := 100) (n := 48) (f := fun _ => 0) (by decide) (by decide) (by decide) (fun j => rfl)]
  rfl
set_option maxHeartbeats 4000000 in
set_option maxRecDepth 100000 in
theorem w0_14 (g : GG) (t z : Nat) : (W0 g (gD g, gI g, gB g, gZ g, t, z))[8]? = some (gad g 14, cel g sg0 14) := by
  rw [cel_obj (σ := sg0) (r := 14) (ci := 3) (by decide) (by decide) rfl]
  rfl
set_option maxHeartbeats 4000000 in
set_option maxRecDepth 100000 in
theorem w0_15 (g : GG) (t z : Nat) : (W0 g (gD g, gI g, gB g, gZ g, t, z))[9]? = some (gad g 15, cel g sg0 15) := by
  rw [cel_arr (σ := sg0) (r := 15) (kk := 100) (n := 80) (f := fun _ => 0) (by decide) (by decide) (by decide) (fun j => rfl)]
  rfl
set_option maxHeartbeats 4000000 in
set_option maxRecDepth 100000 in
theorem w0_16 (g : GG) (t z : Nat) : (W0 g (gD g, gI g, gB g, gZ g, t, z))[10]? = some (gad g 16, cel g sg0 16) := by
  rw [cel_arr (σ := sg0) (r := 16) (kk := 100) (n := 8) (f := fun _ => 0) (by decide) (by decide) (by decide) (fun j => rfl)]
  rfl
set_option maxHeartbeats 4000000 in
set_option maxRecDepth 100000 in
theorem w0_17 (g : GG) (t z : Nat) : (W0 g (gD g, gI g, gB g, gZ g, t, z))[11]? = some (gad g 17, cel g sg0 17) := by
  rw [cel_arr (σ := sg0) (r := 17) (kk := 100) (n := 8) (f := fun _ => 0) (by decide) (by decide) (by decide) (fun j => rfl)]
  rfl
set_option maxHeartbeats 4000000 in
set_option maxRecDepth 100000 in
theorem w0_18 (g : GG) (t z : Nat) : (W0 g (gD g, gI g, gB g, gZ g, t, z))[12]? = some (gad g 18, cel g sg0 18) := by
  rw [cel_arr (σ := sg0) (r := 18) (kk := 100) (n := 8) (f := fun _ => 0) (by decide) (by decide) (by decide) (fun j => rfl)]
  rfl
set_option maxHeartbeats 4000000 in
set_option maxRecDepth 100000 in
theorem w0_19 (g : GG) (t z : Nat) : (W0 g (gD g, gI g, gB g, gZ g, t, z))[13]? = some (gad g 19, cel g sg0 19) := by
  rw [cel_arr (σ := sg0) (r := 19) (kk := 100) (n := 6) (f := stF) (by decide) (by decide) (by decide) (fun j => rfl)]
  rfl
set_option maxHeartbeats 4000000 in
set_option maxRecDepth 100000 in
theorem w0_20 (g : GG) (t z : Nat) : (W0 g (gD g, gI g, gB g, gZ g, t, z))[20]? = some (gad g 20, cel g sg0 20) := by
  rw [cel_obj (σ := sg0) (r := 20) (ci := 3) (by decide) (by decide) rfl]
  rfl
set_option maxHeartbeats 4000000 in
set_option maxRecDepth 100000 in
theorem w0_21 (g : GG) (t z : Nat) : (W0 g (gD g, gI g, gB g, gZ g, t, z))[21]? = some (gad g 21, cel g sg0 21) := by
  rw [cel_arr (σ := sg0) (r := 21) (kk := 100) (n := 80) (f := fun _ => 0) (by decide) (by decide) (by decide) (fun j => rfl)]
  rfl
set_option maxHeartbeats 4000000 in
set_option maxRecDepth 100000 in
theorem w0_22 (g : GG) (t z : Nat) : (W0 g (gD g, gI g, gB g, gZ g, t, z))[22]? = some (gad g 22, cel g sg0 22) := by
  rw [cel_arr (σ := sg0) (r := 22) (kk := 100) (n := 8) (f := fun _ => 0) (by decide) (by decide) (by decide) (fun j => rfl)]
  rfl
set_option maxHeartbeats 4000000 in
set_option maxRecDepth 100000 in
theorem w0_23 (g : GG) (t z : Nat) : (W0 g (gD g, gI g, gB g, gZ g, t, z))[23]? = some (gad g 23, cel g sg0 23) := by
  rw [cel_arr (σ := sg0) (r := 23) (kk := 100) (n := 8) (f := fun _ => 0) (by decide) (by decide) (by decide) (fun j => rfl)]
  rfl
set_option maxHeartbeats 4000000 in
set_option maxRecDepth 100000 in
theorem w0_24 (g : GG) (t z : Nat) : (W0 g (gD g, gI g, gB g, gZ g, t, z))[24]? = some (gad g 24, cel g sg0 24) := by
  rw [cel_arr (σ := sg0) (r := 24) (kk := 100) (n := 8) (f := fun _ => 0) (by decide) (by decide) (by decide) (fun j => rfl)]
  rfl
set_option maxHeartbeats 4000000 in
set_option maxRecDepth 100000 in
theorem w0_25 (g : GG) (t z : Nat) : (W0 g (gD g, gI g, gB g, gZ g, t, z))[25]? = some (gad g 25, cel g sg0 25) := by
  rw [cel_arr (σ := sg0) (r := 25) (kk := 100) (n := 6) (f := stF) (by decide) (by decide) (by decide) (fun j => rfl)]
  rfl
set_option maxHeartbeats 4000000 in
set_option maxRecDepth 100000 in
theorem w0_26 (g : GG) (t z : Nat) : (W0 g (gD g, gI g, gB g, gZ g, t, z))[59]? = some (gad g 26, cel g sg0 26) := by
  rw [cel_obj (σ := sg0) (r := 26) (ci := 3) (by decide) (by decide) rfl]
  rfl
set_option maxHeartbeats 4000000 in
set_option maxRecDepth 100000 in
theorem w0_27 (g : GG) (t z : Nat) : (W0 g (gD g, gI g, gB g, gZ g, t, z))[60]? = some (gad g 27, cel g sg0 27) := by
  rw [cel_arr (σ := sg0) (r := 27) (kk := 100) (n := 80) (f := fun _ => 0) (by decide) (by decide) (by decide) (fun j => rfl)]
  rfl
set_option maxHeartbeats 4000000 in
set_option maxRecDepth 100000 in
theorem w0_28 (g : GG) (t z : Nat) : (W0 g (gD g, gI g, gB g, gZ g, t, z))[61]? = some (gad g 28, cel g sg0 28) := by
  rw [cel_arr (σ := sg0) (r := 28) (kk := 100) (n := 8) (f := fun _ => 0) (by decide) (by decide) (by decide) (fun j => rfl)]
  rfl
set_option maxHeartbeats 4000000 in
set_option maxRecDepth 100000 in
theorem w0_29 (g : GG) (t z : Nat) : (W0 g (gD g, gI g, gB g, gZ g, t, z))[62]? = some (gad g 29, cel g sg0 29) := by
  rw [cel_arr (σ := sg0) (r := 29) (kk := 100) (n := 8) (f := fun _ => 0) (by decide) (by decide) (by decide) (fun j => rfl)]
  rfl
set_option maxHeartbeats 4000000 in
set_option maxRecDepth 100000 in
theorem w0_30 (g : GG) (t z : Nat) : (W0 g (gD g, gI g, gB g, gZ g, t, z))[63]? = some (gad g 30, cel g sg0 30) := by
  rw [cel_arr (σ := sg0) (r := 30) (kk := 100) (n := 8) (f := fun _ => 0) (by decide) (by decide) (by decide) (fun j => rfl)]
  rfl
set_option maxHeartbeats 4000000 in
set_option maxRecDepth 100000 in
theorem w0_31 (g : GG) (t z : Nat) : (W0 g (gD g, gI g, gB g, gZ g, t, z))[64]? = some (gad g 31, cel g sg0 31) := by
  rw [cel_arr (σ := sg0) (r := 31) (kk := 100) (n := 6) (f := stF) (by decide) (by decide) (by decide) (fun j => rfl)]
  rfl
set_option maxHeartbeats 4000000 in
set_option maxRecDepth 100000 in
theorem w0_32 (g : GG) (t z : Nat) : (W0 g (gD g, gI g, gB g, gZ g, t, z))[65]? = some (gad g 32, cel g sg0 32) := by
  rw [cel_obj (σ := sg0) (r := 32) (ci := 3) (by decide) (by decide) rfl]
  rfl
set_option maxHeartbeats 4000000 in
set_option maxRecDepth 100000 in
theorem w0_33 (g : GG) (t z : Nat) : (W0 g (gD g, gI g, gB g, gZ g, t, z))[66]? = some (gad g 33, cel g sg0 33) := by
  rw [cel_arr (σ := sg0) (r := 33) (kk := 100) (n := 80) (f := fun _ => 0) (by decide) (by decide) (by decide) (fun j => rfl)]
  rfl
set_option maxHeartbeats 4000000 in
set_option maxRecDepth 100000 in
theorem w0_34 (g : GG) (t z : Nat) : (W0 g (gD g, gI g, gB g, gZ g, t, z))[67]? = some (gad g 34, cel g sg0 34) := by
  rw [cel_arr (σ := sg0) (r := 34) (kk := 100) (n := 8) (f := fun _ => 0) (by decide) (by decide) (by decide) (fun j => rfl)]
  rfl
set_option maxHeartbeats 4000000 in
set_option maxRecDepth 100000 in
theorem w0_35 (g : GG) (t z : Nat) : (W0 g (gD g, gI g, gB g, gZ g, t, z))[68]? = some (gad g 35, cel g sg0 35) := by
  rw [cel_arr (σ := sg0) (r := 35) (kk := 100) (n := 8) (f := fun _ => 0) (by decide) (by decide) (by decide) (fun j => rfl)]
  rfl
set_option maxHeartbeats 4000000 in
set_option maxRecDepth 100000 in
theorem w0_36 (g : GG) (t z : Nat) : (W0 g (gD g, gI g, gB g, gZ g, t, z))[69]? = some (gad g 36, cel g sg0 36) := by
  rw [cel_arr (σ := sg0) (r := 36) (kk := 100) (n := 8) (f := fun _ => 0) (by decide) (by decide) (by decide) (fun j => rfl)]
  rfl
set_option maxHeartbeats 4000000 in
set_option maxRecDepth 100000 in
theorem w0_37 (g : GG) (t z : Nat) : (W0 g (gD g, gI g, gB g, gZ g, t, z))[70]? = some (gad g 37, cel g sg0 37) := by
  rw [cel_arr (σ := sg0) (r := 37) (kk := 100) (n := 6) (f := stF) (by decide) (by decide) (by decide) (fun j => rfl)]
  rfl
set_option maxHeartbeats 4000000 in
set_option maxRecDepth 100000 in
theorem w0_38 (g : GG) (t z : Nat) : (W0 g (gD g, gI g, gB g, gZ g, t, z))[26]? = some (gad g 38, cel g sg0 38) := by
  rw [cel_obj (σ := sg0) (r := 38) (ci := 4) (by decide) (by decide) rfl]
  rfl
set_option maxHeartbeats 4000000 in
set_option maxRecDepth 100000 in
theorem w0_39 (g : GG) (t z : Nat) : (W0 g (gD g, gI g, gB g, gZ g, t, z))[27]? = some (gad g 39, cel g sg0 39) := by
  rw [cel_obj (σ := sg0) (r := 39) (ci := 1) (by decide) (by decide) rfl]
  rfl
set_option maxHeartbeats 4000000 in
set_option maxRecDepth 100000 in
theorem w0_40 (g : GG) (t z : Nat) : (W0 g (gD g, gI g, gB g, gZ g, t, z))[28]? = some (gad g 40, cel g sg0 40) := by
  rw [cel_arr (σ := sg0) (r := 40) (kk := 100) (n := 8) (f := fun _ => 0) (by decide) (by decide) (by decide) (fun j => rfl)]
  rfl
set_option maxHeartbeats 4000000 in
set_option maxRecDepth 100000 in
theorem w0_41 (g : GG) (t z : Nat) : (W0 g (gD g, gI g, gB g, gZ g, t, z))[29]? = some (gad g 41, cel g sg0 41) := by
  rw [cel_arr (σ := sg0) (r := 41) (kk := 100) (n := 8) (f := fun _ => 0) (by decide) (by decide) (by decide) (fun j => rfl)]
  rfl
set_option maxHeartbeats 4000000 in
set_option maxRecDepth 100000 in
theorem w0_42 (g : GG) (t z : Nat) : (W0 g (gD g, gI g, gB g, gZ g, t, z))[30]? = some (gad g 42, cel g sg0 42) := by
  rw [cel_arr (σ := sg0) (r := 42) (kk := 100) (n := 8) (f := fun _ => 0) (by decide) (by decide) (by decide) (fun j => rfl)]
  rfl
set_option maxHeartbeats 4000000 in
set_option maxRecDepth 100000 in
theorem w0_43 (g : GG) (t z : Nat) : (W0 g (gD g, gI g, gB g, gZ g, t, z))[31]? = some (gad g 43, cel g sg0 43) := by
  rw [cel_obj (σ := sg0) (r := 43) (ci := 0) (by decide) (by decide) rfl]
  rfl
set_option maxHeartbeats 4000000 in
set_option maxRecDepth 100000 in
theorem w0_44 (g : GG) (t z : Nat) : (W0 g (gD g, gI g, gB g, gZ g, t, z))[32]? = some (gad g 44, cel g sg0 44) := by
  rw [cel_arr (σ := sg0) (r := 44) (kk := 100) (n := 80) (f := fun _ => 0) (by decide) (by decide) (by decide) (fun j => rfl)]
  rfl
set_option maxHeartbeats 4000000 in
set_option maxRecDepth 100000 in
theorem w0_45 (g : GG) (t z : Nat) : (W0 g (gD g, gI g, gB g, gZ g, t, z))[33]? = some (gad g 45, cel g sg0 45) := by
  rw [cel_arr (σ := sg0) (r := 45) (kk := 100) (n := 80) (f := fun _ => 0) (by decide) (by decide) (by decide) (fun j => rfl)]
  rfl
set_option maxHeartbeats 4000000 in
set_option maxRecDepth 100000 in
theorem w0_46 (g : GG) (t z : Nat) : (W0 g (gD g, gI g, gB g, gZ g, t, z))[34]? = some (gad g 46, cel g sg0 46) := by
  rw [cel_arr (σ := sg0) (r := 46) (kk := 100) (n := 80) (f := fun _ => 0) (by decide) (by decide) (by decide) (fun j => rfl)]
  rfl
set_option maxHeartbeats 4000000 in
set_option maxRecDepth 100000 in
theorem w0_47 (g : GG) (t z : Nat) : (W0 g (gD g, gI g, gB g, gZ g, t, z))[35]? = some (gad g 47, cel g sg0 47) := by
  rw [cel_arr (σ := sg0) (r := 47) (kk := 100) (n := 1640) (f := fun _ => 0) (by decide) (by decide) (by decide) (fun j => rfl)]
  rfl
set_option maxHeartbeats 4000000 in
set_option maxRecDepth 100000 in
theorem w0_48 (g : GG) (t z : Nat) : (W0 g (gD g, gI g, gB g, gZ g, t, z))[36]? = some (gad g 48, cel g sg0 48) := by
  rw [cel_arr (σ := sg0) (r := 48) (kk := 100) (n := 1640) (f := fun _ => 0) (by decide) (by decide) (by decide) (fun j => rfl)]
  rfl
set_option maxHeartbeats 4000000 in
set_option maxRecDepth 100000 in
theorem w0_49 (g : GG) (t z : Nat) : (W0 g (gD g, gI g, gB g, gZ g, t, z))[37]? = some (gad g 49, cel g sg0 49) := by
  rw [cel_obj (σ := sg0) (r := 49) (ci := 2) (by decide) (by decide) rfl]
  rfl
set_option maxHeartbeats 4000000 in
set_option maxRecDepth 100000 in
theorem w0_50 (g : GG) (t z : Nat) : (W0 g (gD g, gI g, gB g, gZ g, t, z))[38]? = some (gad g 50, cel g sg0 50) := by
  rw [cel_arr (σ := sg0) (r := 50) (kk := 100) (n := 8) (f := fun _ => 0) (by decide) (by decide) (by decide) (fun j => rfl)]
  rfl
set_option maxHeartbeats 4000000 in
set_option maxRecDepth 100000 in
theorem w0_51 (g : GG) (t z : Nat) : (W0 g (gD g, gI g, gB g, gZ g, t, z))[39]? = some (gad g 51, cel g sg0 51) := by
  rw [cel_arr (σ := sg0) (r := 51) (kk := 100) (n := 8) (f := fun _ => 0) (by decide) (by decide) (by decide) (fun j => rfl)]
  rfl
set_option maxHeartbeats 4000000 in
set_option maxRecDepth 100000 in
theorem w0_52 (g : GG) (t z : Nat) : (W0 g (gD g, gI g, gB g, gZ g, t, z))[40]? = some (gad g 52, cel g sg0 52) := by
  rw [cel_arr (σ := sg0) (r := 52) (kk := 100) (n := 72) (f := fun _ => 0) (by decide) (by decide) (by decide) (fun j => rfl)]
  rfl
set_option maxHeartbeats 4000000 in
set_option maxRecDepth 100000 in
theorem w0_53 (g : GG) (t z : Nat) : (W0 g (gD g, gI g, gB g, gZ g, t, z))[41]? = some (gad g 53, cel g sg0 53) := by
  rw [cel_arr (σ := sg0) (r := 53) (kk := 100) (n := 152) (f := fun _ => 0) (by decide) (by decide) (by decide) (fun j => rfl)]
  rfl
set_option maxHeartbeats 4000000 in
set_option maxRecDepth 100000 in
theorem w0_54 (g : GG) (t z : Nat) : (W0 g (gD g, gI g, gB g, gZ g, t, z))[42]? = some (gad g 54, cel g sg0 54) := by
  rw [cel_arr (σ := sg0) (r := 54) (kk := 100) (n := 152) (f := fun _ => 0) (by decide) (by decide) (by decide) (fun j => rfl)]
  rfl
set_option maxHeartbeats 4000000 in
set_option maxRecDepth 100000 in
theorem w0_55 (g : GG) (t z : Nat) : (W0 g (gD g, gI g, gB g, gZ g, t, z))[43]? = some (gad g 55, cel g sg0 55) := by
  rw [cel_arr (σ := sg0) (r := 55) (kk := 100) (n := 152) (f := fun _ => 0) (by decide) (by decide) (by decide) (fun j => rfl)]
  rfl
set_option maxHeartbeats 4000000 in
set_option maxRecDepth 100000 in
theorem w0_56 (g : GG) (t z : Nat) : (W0 g (gD g, gI g, gB g, gZ g, t, z))[44]? = some (gad g 56, cel g sg0 56) := by
  rw [cel_arr (σ := sg0) (r := 56) (kk := 100) (n := 152) (f := fun _ => 0) (by decide) (by decide) (by decide) (fun j => rfl)]
  rfl
set_option maxHeartbeats 4000000 in
set_option maxRecDepth 100000 in
theorem w0_57 (g : GG) (t z : Nat) : (W0 g (gD g, gI g, gB g, gZ g, t, z))[45]? = some (gad g 57, cel g sg0 57) := by
  rw [cel_arr (σ := sg0) (r := 57) (kk := 100) (n := 152) (f := fun _ => 0) (by decide) (by decide) (by decide) (fun j => rfl)]
  rfl
set_option maxHeartbeats 4000000 in
set_option maxRecDepth 100000 in
theorem w0_58 (g : GG) (t z : Nat) : (W0 g (gD g, gI g, gB g, gZ g, t, z))[46]? = some (gad g 58, cel g sg0 58) := by
  rw [cel_arr (σ := sg0) (r := 58) (kk := 100) (n := 152) (f := fun _ => 0) (by decide) (by decide) (by decide) (fun j => rfl)]
  rfl
set_option maxHeartbeats 4000000 in
set_option maxRecDepth 100000 in
theorem w0_59 (g : GG) (t z : Nat) : (W0 g (gD g, gI g, gB g, gZ g, t, z))[47]? = some (gad g 59, cel g sg0 59) := by
  rw [cel_arr (σ := sg0) (r := 59) (kk := 102) (n := 152) (f := fun _ => 0) (by decide) (by decide) (by decide) (fun j => rfl)]
  rfl
set_option maxHeartbeats 4000000 in
set_option maxRecDepth 100000 in
theorem w0_60 (g : GG) (t z : Nat) : (W0 g (gD g, gI g, gB g, gZ g, t, z))[48]? = some (gad g 60, cel g sg0 60) := by
  rw [cel_obj (σ := sg0) (r := 60) (ci := 2) (by decide) (by decide) rfl]
  rfl
set_option maxHeartbeats 4000000 in
set_option maxRecDepth 100000 in
theorem w0_61 (g : GG) (t z : Nat) : (W0 g (gD g, gI g, gB g, gZ g, t, z))[49]? = some (gad g 61, cel g sg0 61) := by
  rw [cel_arr (σ := sg0) (r := 61) (kk := 100) (n := 8) (f := fun _ => 0) (by decide) (by decide) (by decide) (fun j => rfl)]
  rfl
set_option maxHeartbeats 4000000 in
set_option maxRecDepth 100000 in
theorem w0_62 (g : GG) (t z : Nat) : (W0 g (gD g, gI g, gB g, gZ g, t, z))[50]? = some (gad g 62, cel g sg0 62) := by
  rw [cel_arr (σ := sg0) (r := 62) (kk := 100) (n := 8) (f := fun _ => 0) (by decide) (by decide) (by decide) (fun j => rfl)]
  rfl
set_option maxHeartbeats 4000000 in
set_option maxRecDepth 100000 in
theorem w0_63 (g : GG) (t z : Nat) : (W0 g (gD g, gI g, gB g, gZ g, t, z))[51]? = some (gad g 63, cel g sg0 63) := by
  rw [cel_arr (σ := sg0) (r := 63) (kk := 100) (n := 72) (f := fun _ => 0) (by decide) (by decide) (by decide) (fun j => rfl)]
  rfl
set_option maxHeartbeats 4000000 in
set_option maxRecDepth 100000 in
theorem w0_64 (g : GG) (t z : Nat) : (W0 g (gD g, gI g, gB g, gZ g, t, z))[52]? = some (gad g 64, cel g sg0 64) := by
  rw [cel_arr (σ := sg0) (r := 64) (kk := 100) (n := 152) (f := fun _ => 0) (by decide) (by decide) (by decide) (fun j => rfl)]
  rfl
set_option maxHeartbeats 4000000 in
set_option maxRecDepth 100000 in
theorem w0_65 (g : GG) (t z : Nat) : (W0 g (gD g, gI g, gB g, gZ g, t, z))[53]? = some (gad g 65, cel g sg0 65) := by
  rw [cel_arr (σ := sg0) (r := 65) (kk := 100) (n := 152) (f := fun _ => 0) (by decide) (by decide) (by decide) (fun j => rfl)]
  rfl
set_option maxHeartbeats 4000000 in
set_option maxRecDepth 100000 in
theorem w0_66 (g : GG) (t z : Nat) : (W0 g (gD g, gI g, gB g, gZ g, t, z))[54]? = some (gad g 66, cel g sg0 66) := by
  rw [cel_arr (σ := sg0) (r := 66) (kk := 100) (n := 152) (f := fun _ => 0) (by decide) (by decide) (by decide) (fun j => rfl)]
  rfl
set_option maxHeartbeats 4000000 in
set_option maxRecDepth 100000 in
theorem w0_67 (g : GG) (t z : Nat) : (W0 g (gD g, gI g, gB g, gZ g, t, z))[55]? = some (gad g 67, cel g sg0 67) := by
  rw [cel_arr (σ := sg0) (r := 67) (kk := 100) (n := 152) (f := fun _ => 0) (by decide) (by decide) (by decide) (fun j => rfl)]
  rfl
set_option maxHeartbeats 4000000 in
set_option maxRecDepth 100000 in
theorem w0_68 (g : GG) (t z : Nat) : (W0 g (gD g, gI g, gB g, gZ g, t, z))[56]? = some (gad g 68, cel g sg0 68) := by
  rw [cel_arr (σ := sg0) (r := 68) (kk := 100) (n := 152) (f := fun _ => 0) (by decide) (by decide) (by decide) (fun j => rfl)]
  rfl
set_option maxHeartbeats 4000000 in
set_option maxRecDepth 100000 in
theorem w0_69 (g : GG) (t z : Nat) : (W0 g (gD g, gI g, gB g, gZ g, t, z))[57]? = some (gad g 69, cel g sg0 69) := by
  rw [cel_arr (σ := sg0) (r := 69) (kk := 100) (n := 152) (f := fun _ => 0) (by decide) (by decide) (by decide) (fun j => rfl)]
  rfl
set_option maxHeartbeats 4000000 in
set_option maxRecDepth 100000 in
theorem w0_70 (g : GG) (t z : Nat) : (W0 g (gD g, gI g, gB g, gZ g, t, z))[58]? = some (gad g 70, cel g sg0 70) := by
  rw [cel_arr (σ := sg0) (r := 70) (kk := 102) (n := 152) (f := fun _ => 0) (by decide) (by decide) (by decide) (fun j => rfl)]
  rfl
set_option maxHeartbeats 4000000 in
set_option maxRecDepth 100000 in
theorem w0_71 (g : GG) (t z : Nat) : (W0 g (gD g, gI g, gB g, gZ g, t, z))[71]? = some (gad g 71, cel g sg0 71) := by
  rw [cel_obj (σ := sg0) (r := 71) (ci := 7) (by decide) (by decide) rfl]
  rfl
set_option maxHeartbeats 4000000 in
set_option maxRecDepth 100000 in
theorem sg72 (j : Nat) : Int32.ofInt (sg0 72 (j : Int)) = upd (upd (upd (upd (fun _ => 0) 585 40) 586 8) 587 5) 588 1 j := by
  have e : sg0 72 (j : Int) = (if (j : Int) = 585 then 40 else if (j : Int) = 586 then 8 else if (j : Int) = 587 then 5 else if (j : Int) = 588 then 1 else 0) := rfl
  rw [e]
  simp only [upd]
  by_cases h1 : j = 585
  · subst h1; decide +kernel
  by_cases h2 : j = 586
  · subst h2; decide +kernel
  by_cases h3 : j = 587
  · subst h3; decide +kernel
  by_cases h4 : j = 588
  · subst h4; decide +kernel
  rw [if_neg (by omega), if_neg (by omega), if_neg (by omega), if_neg (by omega), if_neg h4, if_neg h3, if_neg h2, if_neg h1]
  rfl
set_option maxHeartbeats 4000000 in
set_option maxRecDepth 100000 in
theorem w0_72 (g : GG) (t z : Nat) : (W0 g (gD g, gI g, gB g, gZ g, t, z))[72]? = some (gad g 72, cel g sg0 72) := by
  rw [cel_arr (σ := sg0) (r := 72) (kk := 100) (n := 591) (f := upd (upd (upd (upd (fun _ => 0) 585 40) 586 8) 587 5) 588 1) (by decide) (by decide) (by decide) sg72]
  rfl
set_option maxHeartbeats 4000000 in
set_option maxRecDepth 100000 in
theorem w0_73 (g : GG) (t z : Nat) : (W0 g (gD g, gI g, gB g, gZ g, t, z))[73]? = some (gad g 73, cel g sg0 73) := by
  rw [cel_arr (σ := sg0) (r := 73) (kk := 100) (n := 591) (f := fun _ => 0) (by decide) (by decide) (by decide) (fun j => rfl)]
  rfl
set_option maxHeartbeats 4000000 in
set_option maxRecDepth 100000 in
theorem w0_74 (g : GG) (t z : Nat) : (W0 g (gD g, gI g, gB g, gZ g, t, z))[74]? = some (gad g 74, cel g sg0 74) := by
  rw [cel_arr (σ := sg0) (r := 74) (kk := 100) (n := 114) (f := fun _ => 0) (by decide) (by decide) (by decide) (fun j => rfl)]
  rfl
set_option maxHeartbeats 4000000 in
set_option maxRecDepth 100000 in
theorem w0_75 (g : GG) (t z : Nat) : (W0 g (gD g, gI g, gB g, gZ g, t, z))[75]? = some (gad g 75, cel g sg0 75) := by
  rw [cel_arr (σ := sg0) (r := 75) (kk := 100) (n := 114) (f := fun _ => 0) (by decide) (by decide) (by decide) (fun j => rfl)]
  rfl
set_option maxHeartbeats 4000000 in
set_option maxRecDepth 100000 in
theorem w0_76 (g : GG) (t z : Nat) : (W0 g (gD g, gI g, gB g, gZ g, t, z))[76]? = some (gad g 76, cel g sg0 76) := by
  rw [cel_arr (σ := sg0) (r := 76) (kk := 100) (n := 1182) (f := fun _ => 0) (by decide) (by decide) (by decide) (fun j => rfl)]
  rfl
set_option maxHeartbeats 4000000 in
set_option maxRecDepth 100000 in
theorem w0_77 (g : GG) (t z : Nat) : (W0 g (gD g, gI g, gB g, gZ g, t, z))[77]? = some (gad g 77, cel g sg0 77) := by
  rw [cel_arr (σ := sg0) (r := 77) (kk := 102) (n := 2) (f := fun _ => 0) (by decide) (by decide) (by decide) (fun j => rfl)]
  rfl
set_option maxHeartbeats 4000000 in
set_option maxRecDepth 100000 in
theorem w0_78 (g : GG) (t z : Nat) : (W0 g (gD g, gI g, gB g, gZ g, t, z))[78]? = some (gad g 78, cel g sg0 78) := by
  rw [cel_arr (σ := sg0) (r := 78) (kk := 100) (n := 400) (f := fun _ => 0) (by decide) (by decide) (by decide) (fun j => rfl)]
  rfl
set_option maxHeartbeats 4000000 in
set_option maxRecDepth 100000 in
theorem w0_79 (g : GG) (t z : Nat) : (W0 g (gD g, gI g, gB g, gZ g, t, z))[79]? = some (gad g 79, cel g sg0 79) := by
  rw [cel_arr (σ := sg0) (r := 79) (kk := 100) (n := 10) (f := lsF [0, 3, 8, 11, 18, 25, 28, 31, 35, 41]) (by decide) (by decide) (by decide) (fun j => rfl)]
  rfl
set_option maxHeartbeats 4000000 in
set_option maxRecDepth 100000 in
theorem w0_80 (g : GG) (t z : Nat) : (W0 g (gD g, gI g, gB g, gZ g, t, z))[80]? = some (gad g 80, cel g sg0 80) := by
  rw [cel_arr (σ := sg0) (r := 80) (kk := 100) (n := 41) (f := lsF namL) (by decide) (by decide) (by decide) (fun j => rfl)]
  rfl
set_option maxHeartbeats 4000000 in
set_option maxRecDepth 100000 in
theorem w0_81 (g : GG) (t z : Nat) : (W0 g (gD g, gI g, gB g, gZ g, t, z))[81]? = some (gad g 81, cel g sg0 81) := by
  rw [cel_arr (σ := sg0) (r := 81) (kk := 102) (n := 6) (f := fun _ => 0) (by decide) (by decide) (by decide) (fun j => rfl)]
  rfl
set_option maxHeartbeats 4000000 in
set_option maxRecDepth 100000 in
theorem w0_82 (g : GG) (t z : Nat) : (W0 g (gD g, gI g, gB g, gZ g, t, z))[82]? = some (gad g 82, cel g sg0 82) := by
  rw [cel_arr (σ := sg0) (r := 82) (kk := 100) (n := 9) (f := fun _ => 0) (by decide) (by decide) (by decide) (fun j => rfl)]
  rfl
set_option maxHeartbeats 4000000 in
set_option maxRecDepth 100000 in
theorem w0_83 (g : GG) (t z : Nat) : (W0 g (gD g, gI g, gB g, gZ g, t, z))[83]? = some (gad g 83, cel g sg0 83) := by
  rw [cel_arr (σ := sg0) (r := 83) (kk := 100) (n := 8) (f := fun _ => 0) (by decide) (by decide) (by decide) (fun j => rfl)]
  rfl
set_option maxHeartbeats 4000000 in
set_option maxRecDepth 100000 in
theorem w0_84 (g : GG) (t z : Nat) : (W0 g (gD g, gI g, gB g, gZ g, t, z))[84]? = some (gad g 84, cel g sg0 84) := by
  rw [cel_arr (σ := sg0) (r := 84) (kk := 100) (n := 300) (f := fun _ => 0) (by decide) (by decide) (by decide) (fun j => rfl)]
  rfl
set_option maxHeartbeats 4000000 in
set_option maxRecDepth 100000 in
theorem w0_85 (g : GG) (t z : Nat) : (W0 g (gD g, gI g, gB g, gZ g, t, z))[85]? = some (gad g 85, cel g sg0 85) := by
  rw [cel_arr (σ := sg0) (r := 85) (kk := 100) (n := 300) (f := fun _ => 0) (by decide) (by decide) (by decide) (fun j => rfl)]
  rfl
set_option maxHeartbeats 4000000 in
set_option maxRecDepth 100000 in
theorem w0_86 (g : GG) (t z : Nat) : (W0 g (gD g, gI g, gB g, gZ g, t, z))[86]? = some (gad g 86, cel g sg0 86) := by
  rw [cel_arr (σ := sg0) (r := 86) (kk := 100) (n := 300) (f := fun _ => 0) (by decide) (by decide) (by decide) (fun j => rfl)]
  rfl
set_option maxHeartbeats 4000000 in
set_option maxRecDepth 100000 in
theorem w0_87 (g : GG) (t z : Nat) : (W0 g (gD g, gI g, gB g, gZ g, t, z))[87]? = some (gad g 87, cel g sg0 87) := by
  rw [cel_arr (σ := sg0) (r := 87) (kk := 100) (n := 300) (f := fun _ => 0) (by decide) (by decide) (by decide) (fun j => rfl)]
  rfl
set_option maxHeartbeats 4000000 in
set_option maxRecDepth 100000 in
theorem w0_88 (g : GG) (t z : Nat) : (W0 g (gD g, gI g, gB g, gZ g, t, z))[88]? = some (gad g 88, cel g sg0 88) := by
  rw [cel_arr (σ := sg0) (r := 88) (kk := 100) (n := 6642) (f := fun _ => 0) (by decide) (by decide) (by decide) (fun j => rfl)]
  rfl
set_option maxHeartbeats 4000000 in
set_option maxRecDepth 100000 in
theorem w0_89 (g : GG) (t z : Nat) : (W0 g (gD g, gI g, gB g, gZ g, t, z))[89]? = some (gad g 89, cel g sg0 89) := by
  rw [cel_arr (σ := sg0) (r := 89) (kk := 100) (n := 6642) (f := fun _ => 0) (by decide) (by decide) (by decide) (fun j => rfl)]
  rfl
set_option maxHeartbeats 4000000 in
set_option maxRecDepth 100000 in
theorem w0_90 (g : GG) (t z : Nat) : (W0 g (gD g, gI g, gB g, gZ g, t, z))[90]? = some (gad g 90, cel g sg0 90) := by
  rw [cel_arr (σ := sg0) (r := 90) (kk := 100) (n := 6642) (f := fun _ => 0) (by decide) (by decide) (by decide) (fun j => rfl)]
  rfl
set_option maxHeartbeats 4000000 in
set_option maxRecDepth 100000 in
theorem w0_91 (g : GG) (t z : Nat) : (W0 g (gD g, gI g, gB g, gZ g, t, z))[91]? = some (gad g 91, cel g sg0 91) := by
  rw [cel_arr (σ := sg0) (r := 91) (kk := 100) (n := 7) (f := fun _ => 0) (by decide) (by decide) (by decide) (fun j => rfl)]
  rfl
set_option maxHeartbeats 4000000 in
set_option maxRecDepth 100000 in
theorem w0_all (g : GG) (t z : Nat) : ∀ r, r < 92 → (W0 g (gD g, gI g, gB g, gZ g, t, z))[posL.getD r 0]? = some (gad g r, cel g sg0 r) := by
  intro r hr
  match r, hr with
  | 0, _ => exact w0_0 g t z
  | 1, _ => exact w0_1 g t z
  | 2, _ => exact w0_2 g t z
  | 3, _ => exact w0_3 g t z
  | 4, _ => exact w0_4 g t z
  | 5, _ => exact w0_5 g t z
  | 6, _ => exact w0_6 g t z
  | 7, _ => exact w0_7 g t z
  | 8, _ => exact w0_8 g t z
  | 9, _ => exact w0_9 g t z
  | 10, _ => exact w0_10 g t z
  | 11, _ => exact w0_11 g t z
  | 12, _ => exact w0_12 g t z
  | 13, _ => exact w0_13 g t z
  | 14, _ => exact w0_14 g t z
  | 15, _ => exact w0_15 g t z
  | 16, _ => exact w0_16 g t z
  | 17, _ => exact w0_17 g t z
  | 18, _ => exact w0_18 g t z
  | 19, _ => exact w0_19 g t z
  | 20, _ => exact w0_20 g t z
  | 21, _ => exact w0_21 g t z
  | 22, _ => exact w0_22 g t z
  | 23, _ => exact w0_23 g t z
  | 24, _ => exact w0_24 g t z
  | 25, _ => exact w0_25 g t z
  | 26, _ => exact w0_26 g t z
  | 27, _ => exact w0_27 g t z
  | 28, _ => exact w0_28 g t z
  | 29, _ => exact w0_29 g t z
  | 30, _ => exact w0_30 g t z
  | 31, _ => exact w0_31 g t z
  | 32, _ => exact w0_32 g t z
  | 33, _ => exact w0_33 g t z
  | 34, _ => exact w0_34 g t z
  | 35, _ => exact w0_35 g t z
  | 36, _ => exact w0_36 g t z
  | 37, _ => exact w0_37 g t z
  | 38, _ => exact w0_38 g t z
  | 39, _ => exact w0_39 g t z
  | 40, _ => exact w0_40 g t z
  | 41, _ => exact w0_41 g t z
  | 42, _ => exact w0_42 g t z
  | 43, _ => exact w0_43 g t z
  | 44, _ => exact w0_44 g t z
  | 45, _ => exact w0_45 g t z
  | 46, _ => exact w0_46 g t z
  | 47, _ => exact w0_47 g t z
  | 48, _ => exact w0_48 g t z
  | 49, _ => exact w0_49 g t z
  | 50, _ => exact w0_50 g t z
  | 51, _ => exact w0_51 g t z
  | 52, _ => exact w0_52 g t z
  | 53, _ => exact w0_53 g t z
  | 54, _ => exact w0_54 g t z
  | 55, _ => exact w0_55 g t z
  | 56, _ => exact w0_56 g t z
  | 57, _ => exact w0_57 g t z
  | 58, _ => exact w0_58 g t z
  | 59, _ => exact w0_59 g t z
  | 60, _ => exact w0_60 g t z
  | 61, _ => exact w0_61 g t z
  | 62, _ => exact w0_62 g t z
  | 63, _ => exact w0_63 g t z
  | 64, _ => exact w0_64 g t z
  | 65, _ => exact w0_65 g t z
  | 66, _ => exact w0_66 g t z
  | 67, _ => exact w0_67 g t z
  | 68, _ => exact w0_68 g t z
  | 69, _ => exact w0_69 g t z
  | 70, _ => exact w0_70 g t z
  | 71, _ => exact w0_71 g t z
  | 72, _ => exact w0_72 g t z
  | 73, _ => exact w0_73 g t z
  | 74, _ => exact w0_74 g t z
  | 75, _ => exact w0_75 g t z
  | 76, _ => exact w0_76 g t z
  | 77, _ => exact w0_77 g t z
  | 78, _ => exact w0_78 g t z
  | 79, _ => exact w0_79 g t z
  | 80, _ => exact w0_80 g t z
  | 81, _ => exact w0_81 g t z
  | 82, _ => exact w0_82 g t z
  | 83, _ => exact w0_83 g t z
  | 84, _ => exact w0_84 g t z
  | 85, _ => exact w0_85 g t z
  | 86, _ => exact w0_86 g t z
  | 87, _ => exact w0_87 g t z
  | 88, _ => exact w0_88 g t z
  | 89, _ => exact w0_89 g t z
  | 90, _ => exact w0_90 g t z
  | 91, _ => exact w0_91 g t z
  | (_ + 92), h => exact absurd h (by omega)
