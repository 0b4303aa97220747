theorem zs_X_checkDraft : Cond.selects "IslandRights" zm_X_checkDraft zm_X_checkDraft ∈ zw_A := zw_s (q := (zm_X_checkDraft, 9)) (by decide +kernel) (by decide +kernel)
theorem zs_X_takeDraft : Cond.selects "IslandRights" zm_X_takeDraft zm_X_takeDraft ∈ zw_A := zw_s (q := (zm_X_takeDraft, 9)) (by decide +kernel) (by decide +kernel)
theorem zs_X_sell : Cond.selects "IslandRights" zm_X_sell zm_X_sell ∈ zw_A := zw_s (q := (zm_X_sell, 9)) (by decide +kernel) (by decide +kernel)
theorem zs_X_costOf : Cond.selects "IslandRights" zm_X_costOf zm_X_costOf ∈ zw_A := zw_s (q := (zm_X_costOf, 9)) (by decide +kernel) (by decide +kernel)
theorem zs_X_moveToSold : Cond.selects "IslandRights" zm_X_moveToSold zm_X_moveToSold ∈ zw_A := zw_s (q := (zm_X_moveToSold, 9)) (by decide +kernel) (by decide +kernel)
theorem zs_X_serve : Cond.selects "IslandRights" zm_X_serve zm_X_serve ∈ zw_A := zw_s (q := (zm_X_serve, 9)) (by decide +kernel) (by decide +kernel)
theorem zs_X_checkTicket : Cond.selects "IslandRights" zm_X_checkTicket zm_X_checkTicket ∈ zw_A := zw_s (q := (zm_X_checkTicket, 9)) (by decide +kernel) (by decide +kernel)
theorem zs_X_laneOf : Cond.selects "IslandRights" zm_X_laneOf zm_X_laneOf ∈ zw_A := zw_s (q := (zm_X_laneOf, 9)) (by decide +kernel) (by decide +kernel)
theorem zs_X_putInOutbox : Cond.selects "IslandRights" zm_X_putInOutbox zm_X_putInOutbox ∈ zw_A := zw_s (q := (zm_X_putInOutbox, 9)) (by decide +kernel) (by decide +kernel)
theorem zs_X_takeNext : Cond.selects "IslandRights" zm_X_takeNext zm_X_takeNext ∈ zw_A := zw_s (q := (zm_X_takeNext, 9)) (by decide +kernel) (by decide +kernel)
theorem zs_M_refused : Cond.selects "IslandRightsModel" zm_M_refused zm_M_refused ∈ zw_A := zw_s (q := (zm_M_refused, 28)) (by decide +kernel) (by decide +kernel)
theorem zs_M_fits : Cond.selects "IslandRightsModel" zm_M_fits zm_M_fits ∈ zw_A := zw_s (q := (zm_M_fits, 28)) (by decide +kernel) (by decide +kernel)
theorem zs_M_lies : Cond.selects "IslandRightsModel" zm_M_lies zm_M_lies ∈ zw_A := zw_s (q := (zm_M_lies, 28)) (by decide +kernel) (by decide +kernel)
theorem zs_M_sell : Cond.selects "IslandRightsModel" zm_M_sell zm_M_sell ∈ zw_A := zw_s (q := (zm_M_sell, 28)) (by decide +kernel) (by decide +kernel)
theorem zs_M_give : Cond.selects "IslandRightsModel" zm_M_give zm_M_give ∈ zw_A := zw_s (q := (zm_M_give, 28)) (by decide +kernel) (by decide +kernel)
theorem zs_M_copy : Cond.selects "IslandRightsModel" zm_M_copy zm_M_copy ∈ zw_A := zw_s (q := (zm_M_copy, 28)) (by decide +kernel) (by decide +kernel)
theorem zs_M_serve : Cond.selects "IslandRightsModel" zm_M_serve zm_M_serve ∈ zw_A := zw_s (q := (zm_M_serve, 28)) (by decide +kernel) (by decide +kernel)
theorem zs_M_isTicket : Cond.selects "IslandRightsModel" zm_M_isTicket zm_M_isTicket ∈ zw_A := zw_s (q := (zm_M_isTicket, 28)) (by decide +kernel) (by decide +kernel)
theorem zs_M_enclose : Cond.selects "IslandRightsModel" zm_M_enclose zm_M_enclose ∈ zw_A := zw_s (q := (zm_M_enclose, 28)) (by decide +kernel) (by decide +kernel)
theorem zs_M_loseOne : Cond.selects "IslandRightsModel" zm_M_loseOne zm_M_loseOne ∈ zw_A := zw_s (q := (zm_M_loseOne, 28)) (by decide +kernel) (by decide +kernel)
theorem zi_J : ∀ w ∈ u_ws zR_J zT_J 2, w ∈ zw_A := by
  intro w hw
  obtain ⟨k, hk, rfl⟩ := List.mem_map.mp hw
  have hk := List.mem_range.mp hk
  match k, hk with
  | 0, _ => exact zk_40
  | 1, _ => exact zk_42
  | k + 2, h => exact absurd h (by omega)
theorem zi_N : ∀ w ∈ u_ws zR_N zT_N 7, w ∈ zw_A := by
  intro w hw
  obtain ⟨k, hk, rfl⟩ := List.mem_map.mp hw
  have hk := List.mem_range.mp hk
  match k, hk with
  | 0, _ => exact zk_90
  | 1, _ => exact zk_92
  | 2, _ => exact zk_94
  | 3, _ => exact zk_96
  | 4, _ => exact zk_98
  | 5, _ => exact zk_100
  | 6, _ => exact zk_102
  | k + 7, h => exact absurd h (by omega)
theorem zi_P : ∀ w ∈ u_ws zR_P zT_P 4, w ∈ zw_A := by
  intro w hw
  obtain ⟨k, hk, rfl⟩ := List.mem_map.mp hw
  have hk := List.mem_range.mp hk
  match k, hk with
  | 0, _ => exact zk_62
  | 1, _ => exact zk_64
  | 2, _ => exact zk_66
  | 3, _ => exact zk_68
  | k + 4, h => exact absurd h (by omega)
theorem zi_T : ∀ w ∈ u_ws zR_T zT_T 5, w ∈ zw_A := by
  intro w hw
  obtain ⟨k, hk, rfl⟩ := List.mem_map.mp hw
  have hk := List.mem_range.mp hk
  match k, hk with
  | 0, _ => exact zk_336
  | 1, _ => exact zk_338
  | 2, _ => exact zk_340
  | 3, _ => exact zk_342
  | 4, _ => exact zk_344
  | k + 5, h => exact absurd h (by omega)
theorem zi_H : ∀ w ∈ u_ws zR_H zT_H 2, w ∈ zw_A := by
  intro w hw
  obtain ⟨k, hk, rfl⟩ := List.mem_map.mp hw
  have hk := List.mem_range.mp hk
  match k, hk with
  | 0, _ => exact zk_368
  | 1, _ => exact zk_370
  | k + 2, h => exact absurd h (by omega)
theorem zi_X : ∀ w ∈ u_ws zR_X zT_X 9, w ∈ zw_A := by
  intro w hw
  obtain ⟨k, hk, rfl⟩ := List.mem_map.mp hw
  have hk := List.mem_range.mp hk
  match k, hk with
  | 0, _ => exact zk_114
  | 1, _ => exact zk_116
  | 2, _ => exact zk_118
  | 3, _ => exact zk_120
  | 4, _ => exact zk_122
  | 5, _ => exact zk_124
  | 6, _ => exact zk_126
  | 7, _ => exact zk_128
  | 8, _ => exact zk_130
  | k + 9, h => exact absurd h (by omega)
theorem zi_M : ∀ w ∈ u_ws zR_M zT_M 28, w ∈ zw_A := by
  intro w hw
  obtain ⟨k, hk, rfl⟩ := List.mem_map.mp hw
  have hk := List.mem_range.mp hk
  match k, hk with
  | 0, _ => exact zk_566
  | 1, _ => exact zk_568
  | 2, _ => exact zk_570
  | 3, _ => exact zk_572
  | 4, _ => exact zk_574
  | 5, _ => exact zk_576
  | 6, _ => exact zk_578
  | 7, _ => exact zk_580
  | 8, _ => exact zk_582
  | 9, _ => exact zk_584
  | 10, _ => exact zk_586
  | 11, _ => exact zk_588
  | 12, _ => exact zk_590
  | 13, _ => exact zk_592
  | 14, _ => exact zk_594
  | 15, _ => exact zk_596
  | 16, _ => exact zk_598
  | 17, _ => exact zk_600
  | 18, _ => exact zk_602
  | 19, _ => exact zk_604
  | 20, _ => exact zk_606
  | 21, _ => exact zk_608
  | 22, _ => exact zk_610
  | 23, _ => exact zk_612
  | 24, _ => exact zk_614
  | 25, _ => exact zk_616
  | 26, _ => exact zk_618
  | 27, _ => exact zk_620
  | k + 28, h => exact absurd h (by omega)
