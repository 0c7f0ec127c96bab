abbrev r_V_init : Room := { frames := 2, cells := 35, slots := 361, locals := 40 }
abbrev r_V_house : Room := { frames := 1, cells := 0, slots := 0, locals := 22 }
abbrev r_V_wall : Room := { frames := 1, cells := 0, slots := 0, locals := 22 }
abbrev r_V_set : Room := { frames := 2, cells := 0, slots := 0, locals := 44 }
abbrev r_V_setVoice : Room := { frames := 1, cells := 0, slots := 0, locals := 22 }
abbrev r_V_setWind : Room := { frames := 1, cells := 0, slots := 0, locals := 22 }
abbrev r_V_setPlace : Room := { frames := 1, cells := 0, slots := 0, locals := 22 }
abbrev r_V_letter : Room := { frames := 1, cells := 0, slots := 0, locals := 22 }
abbrev r_V_say : Room := { frames := 1, cells := 0, slots := 0, locals := 22 }
abbrev r_V_wipe : Room := { frames := 1, cells := 0, slots := 0, locals := 21 }
abbrev r_V_fault : Room := { frames := 2, cells := 0, slots := 0, locals := 43 }
abbrev r_V_judge : Room := { frames := 6, cells := 0, slots := 0, locals := 143 }
abbrev r_V_done : Room := { frames := 6, cells := 0, slots := 0, locals := 143 }
abbrev r_V_knows : Room := { frames := 6, cells := 0, slots := 0, locals := 143 }
abbrev r_V_behind : Room := { frames := 6, cells := 0, slots := 0, locals := 143 }
abbrev r_V_who : Room := { frames := 1, cells := 0, slots := 0, locals := 22 }
abbrev r_V_loud : Room := { frames := 2, cells := 0, slots := 0, locals := 46 }
abbrev r_V_hears : Room := { frames := 2, cells := 0, slots := 0, locals := 50 }
abbrev r_V_best : Room := { frames := 3, cells := 0, slots := 0, locals := 72 }
abbrev r_V_thirds : Room := { frames := 3, cells := 0, slots := 0, locals := 72 }
abbrev r_V_round : Room := { frames := 3, cells := 0, slots := 0, locals := 77 }
abbrev r_V_seen : Room := { frames := 1, cells := 0, slots := 0, locals := 22 }
abbrev r_V_forget : Room := { frames := 0, cells := 0, slots := 0, locals := 0 }
abbrev r_V_at : Room := { frames := 3, cells := 0, slots := 0, locals := 72 }
abbrev r_V_ask : Room := { frames := 3, cells := 0, slots := 0, locals := 72 }
abbrev r_V_rumour : Room := { frames := 3, cells := 0, slots := 0, locals := 68 }
abbrev r_V_chance : Room := { frames := 3, cells := 0, slots := 0, locals := 83 }
abbrev r_V_year : Room := { frames := 5, cells := 0, slots := 0, locals := 121 }
abbrev r_V_image : Room := { frames := 2, cells := 0, slots := 0, locals := 47 }
abbrev r_V_restore : Room := { frames := 2, cells := 0, slots := 0, locals := 47 }
abbrev r_V_imageNumbered : Room := { frames := 0, cells := 0, slots := 0, locals := 0 }
abbrev r_V_told : Room := { frames := 1, cells := 0, slots := 0, locals := 22 }
abbrev r_V_toldOfAll : Room := { frames := 0, cells := 0, slots := 0, locals := 0 }
abbrev r_V_toldOfLetter : Room := { frames := 0, cells := 0, slots := 0, locals := 0 }
abbrev r_V_within : Room := { frames := 0, cells := 0, slots := 0, locals := 0 }
abbrev r_V_hasBit : Room := { frames := 0, cells := 0, slots := 0, locals := 0 }
abbrev r_V_withBit : Room := { frames := 0, cells := 0, slots := 0, locals := 0 }
abbrev r_M_init : Room := { frames := 1, cells := 11, slots := 341, locals := 20 }
abbrev r_M_in : Room := { frames := 0, cells := 0, slots := 0, locals := 0 }
abbrev r_M_has : Room := { frames := 0, cells := 0, slots := 0, locals := 0 }
abbrev r_M_bits : Room := { frames := 0, cells := 0, slots := 0, locals := 0 }
abbrev r_M_isHouse : Room := { frames := 1, cells := 0, slots := 0, locals := 22 }
abbrev r_M_house : Room := { frames := 2, cells := 0, slots := 0, locals := 42 }
abbrev r_M_wall : Room := { frames := 1, cells := 0, slots := 0, locals := 22 }
abbrev r_M_set : Room := { frames := 2, cells := 0, slots := 0, locals := 42 }
abbrev r_M_letter : Room := { frames := 2, cells := 0, slots := 0, locals := 42 }
abbrev r_M_say : Room := { frames := 1, cells := 0, slots := 0, locals := 22 }
abbrev r_M_wipe : Room := { frames := 0, cells := 0, slots := 0, locals := 0 }
abbrev r_M_isLetter : Room := { frames := 1, cells := 0, slots := 0, locals := 22 }
abbrev r_M_faultOf : Room := { frames := 2, cells := 0, slots := 0, locals := 42 }
abbrev r_M_fault : Room := { frames := 3, cells := 0, slots := 0, locals := 65 }
abbrev r_M_loudAt : Room := { frames := 0, cells := 0, slots := 0, locals := 0 }
abbrev r_M_doesHear : Room := { frames := 1, cells := 0, slots := 0, locals := 25 }
abbrev r_M_hearers : Room := { frames := 2, cells := 0, slots := 0, locals := 49 }
abbrev r_M_asNow : Room := { frames := 0, cells := 0, slots := 0, locals := 0 }
abbrev r_M_goTo : Room := { frames := 0, cells := 0, slots := 0, locals := 0 }
abbrev r_M_read : Room := { frames := 2, cells := 0, slots := 0, locals := 49 }
abbrev r_M_evening : Room := { frames := 1, cells := 0, slots := 0, locals := 21 }
abbrev r_M_goDays : Room := { frames := 3, cells := 0, slots := 0, locals := 71 }
abbrev r_M_judge : Room := { frames := 4, cells := 0, slots := 0, locals := 93 }
abbrev r_M_barOfDays : Room := { frames := 4, cells := 0, slots := 0, locals := 93 }
abbrev r_M_done : Room := { frames := 5, cells := 0, slots := 0, locals := 113 }
abbrev r_M_knows : Room := { frames := 5, cells := 0, slots := 0, locals := 113 }
abbrev r_M_behind : Room := { frames := 5, cells := 0, slots := 0, locals := 113 }
abbrev r_M_who : Room := { frames := 1, cells := 0, slots := 0, locals := 22 }
abbrev r_M_loud : Room := { frames := 2, cells := 0, slots := 0, locals := 42 }
abbrev r_M_hears : Room := { frames := 3, cells := 0, slots := 0, locals := 73 }
abbrev r_M_best : Room := { frames := 3, cells := 0, slots := 0, locals := 73 }
abbrev r_M_laySets : Room := { frames := 3, cells := 0, slots := 0, locals := 73 }
abbrev r_M_thirds : Room := { frames := 4, cells := 0, slots := 0, locals := 94 }
abbrev r_M_round : Room := { frames := 4, cells := 0, slots := 0, locals := 94 }
abbrev r_M_seen : Room := { frames := 2, cells := 0, slots := 0, locals := 42 }
abbrev r_M_forget : Room := { frames := 0, cells := 0, slots := 0, locals := 0 }
abbrev r_M_atSet : Room := { frames := 4, cells := 0, slots := 0, locals := 94 }
abbrev r_M_at : Room := { frames := 5, cells := 0, slots := 0, locals := 118 }
abbrev r_M_ask : Room := { frames := 5, cells := 0, slots := 0, locals := 118 }
abbrev r_M_spread : Room := { frames := 1, cells := 0, slots := 0, locals := 21 }
abbrev r_M_rumour : Room := { frames := 2, cells := 0, slots := 0, locals := 44 }
abbrev r_M_chance : Room := { frames := 3, cells := 0, slots := 0, locals := 73 }
abbrev r_M_year : Room := { frames := 3, cells := 0, slots := 0, locals := 71 }
abbrev r_M_image : Room := { frames := 1, cells := 0, slots := 0, locals := 22 }
abbrev r_M_restore : Room := { frames := 1, cells := 0, slots := 0, locals := 22 }
abbrev r_M_told : Room := { frames := 2, cells := 0, slots := 0, locals := 42 }
abbrev r_C_init : Room := { frames := 1, cells := 1, slots := 12, locals := 20 }
abbrev r_C_weigh : Room := { frames := 2, cells := 0, slots := 0, locals := 50 }
abbrev r_C_findMean : Room := { frames := 2, cells := 0, slots := 0, locals := 56 }
abbrev r_C_findAtMost : Room := { frames := 2, cells := 0, slots := 0, locals := 56 }
abbrev r_C_countWays : Room := { frames := 0, cells := 0, slots := 0, locals := 0 }
abbrev r_C_putLowest : Room := { frames := 1, cells := 0, slots := 0, locals := 30 }
abbrev r_C_greatestDivisor : Room := { frames := 0, cells := 0, slots := 0, locals := 0 }
abbrev r_L_init : Room := { frames := 1, cells := 2, slots := 24, locals := 20 }
abbrev r_L_listen : Room := { frames := 2, cells := 0, slots := 0, locals := 50 }
abbrev r_L_placesFor : Room := { frames := 1, cells := 0, slots := 0, locals := 21 }
abbrev r_L_bestFor : Room := { frames := 1, cells := 0, slots := 0, locals := 21 }
abbrev r_L_thirdsFor : Room := { frames := 0, cells := 0, slots := 0, locals := 0 }
abbrev r_L_leastWalk : Room := { frames := 2, cells := 0, slots := 0, locals := 47 }
abbrev r_L_allCanBeRead : Room := { frames := 1, cells := 0, slots := 0, locals := 21 }
abbrev r_L_placesThatFit : Room := { frames := 0, cells := 0, slots := 0, locals := 0 }
abbrev r_L_bestToAsk : Room := { frames := 1, cells := 0, slots := 0, locals := 21 }
abbrev r_P_init : Room := { frames := 1, cells := 1, slots := 60, locals := 20 }
abbrev r_P_write : Room := { frames := 0, cells := 0, slots := 0, locals := 0 }
abbrev r_P_clean : Room := { frames := 0, cells := 0, slots := 0, locals := 0 }
abbrev r_P_faultPlace : Room := { frames := 1, cells := 0, slots := 0, locals := 20 }
abbrev r_P_kindOf : Room := { frames := 0, cells := 0, slots := 0, locals := 0 }
abbrev r_P_numberOf : Room := { frames := 1, cells := 0, slots := 0, locals := 20 }
abbrev r_P_playsToTheEnd : Room := { frames := 5, cells := 0, slots := 0, locals := 119 }
abbrev r_P_playAct : Room := { frames := 4, cells := 0, slots := 0, locals := 95 }
abbrev r_P_goesAstray : Room := { frames := 2, cells := 0, slots := 0, locals := 50 }
abbrev r_S_init : Room := { frames := 1, cells := 6, slots := 47, locals := 20 }
abbrev r_S_takeFrom : Room := { frames := 1, cells := 0, slots := 0, locals := 26 }
abbrev r_S_loudness : Room := { frames := 1, cells := 0, slots := 0, locals := 21 }
abbrev r_S_reached : Room := { frames := 0, cells := 0, slots := 0, locals := 0 }
abbrev r_S_hearers : Room := { frames := 1, cells := 0, slots := 0, locals := 26 }
abbrev r_S_whyNot : Room := { frames := 1, cells := 0, slots := 0, locals := 21 }
abbrev r_S_carryOut : Room := { frames := 3, cells := 0, slots := 0, locals := 73 }
abbrev r_S_readOut : Room := { frames := 2, cells := 0, slots := 0, locals := 50 }
abbrev r_S_passEvening : Room := { frames := 1, cells := 0, slots := 0, locals := 21 }
abbrev r_S_tellsEastward : Room := { frames := 0, cells := 0, slots := 0, locals := 0 }
abbrev r_S_knowersOfRumour : Room := { frames := 2, cells := 0, slots := 0, locals := 44 }
abbrev r_S_eveningsOfRumour : Room := { frames := 2, cells := 0, slots := 0, locals := 44 }
abbrev r_S_toldOnward : Room := { frames := 1, cells := 0, slots := 0, locals := 21 }
abbrev r_S_drawYear : Room := { frames := 4, cells := 0, slots := 0, locals := 95 }
abbrev r_S_drawnKind : Room := { frames := 0, cells := 0, slots := 0, locals := 0 }
abbrev r_S_factsKnown : Room := { frames := 1, cells := 0, slots := 0, locals := 20 }
abbrev r_B_bitCount : Room := { frames := 0, cells := 0, slots := 0, locals := 0 }
theorem mo_V_init : mo_ok m_V_init 0 := ⟨wc_V_init, wn_V, by decide, by decide, by decide +kernel⟩
theorem ok_V_init : mi_ok m_V_init 0 := ⟨mo_V_init, wi_V_init, rfl, rfl⟩
theorem mo_V_house : mo_ok m_V_house 4 := ⟨wc_V_house, wn_V, by decide, by decide, by decide +kernel⟩
theorem ok_V_house : mv_ok m_V_house 4 4 := ⟨mo_V_house, wi_V_house, wv_V_house, _, _, rfl⟩
theorem mo_V_wall : mo_ok m_V_wall 2 := ⟨wc_V_wall, wn_V, by decide, by decide, by decide +kernel⟩
theorem ok_V_wall : mv_ok m_V_wall 2 4 := ⟨mo_V_wall, wi_V_wall, wv_V_wall, _, _, rfl⟩
theorem mo_V_set : mo_ok m_V_set 2 := ⟨wc_V_set, wn_V, by decide, by decide, by decide +kernel⟩
theorem ok_V_set : mv_ok m_V_set 2 4 := ⟨mo_V_set, wi_V_set, wv_V_set, _, _, rfl⟩
theorem mo_V_setVoice : mo_ok m_V_setVoice 1 := ⟨wc_V_setVoice, wn_V, by decide, by decide, by decide +kernel⟩
theorem ok_V_setVoice : mv_ok m_V_setVoice 1 4 := ⟨mo_V_setVoice, wi_V_setVoice, wv_V_setVoice, _, _, rfl⟩
theorem mo_V_setWind : mo_ok m_V_setWind 1 := ⟨wc_V_setWind, wn_V, by decide, by decide, by decide +kernel⟩
theorem ok_V_setWind : mv_ok m_V_setWind 1 4 := ⟨mo_V_setWind, wi_V_setWind, wv_V_setWind, _, _, rfl⟩
theorem mo_V_setPlace : mo_ok m_V_setPlace 1 := ⟨wc_V_setPlace, wn_V, by decide, by decide, by decide +kernel⟩
theorem ok_V_setPlace : mv_ok m_V_setPlace 1 4 := ⟨mo_V_setPlace, wi_V_setPlace, wv_V_setPlace, _, _, rfl⟩
theorem mo_V_letter : mo_ok m_V_letter 5 := ⟨wc_V_letter, wn_V, by decide, by decide, by decide +kernel⟩
theorem ok_V_letter : mv_ok m_V_letter 5 4 := ⟨mo_V_letter, wi_V_letter, wv_V_letter, _, _, rfl⟩
theorem mo_V_say : mo_ok m_V_say 1 := ⟨wc_V_say, wn_V, by decide, by decide, by decide +kernel⟩
theorem ok_V_say : mv_ok m_V_say 1 4 := ⟨mo_V_say, wi_V_say, wv_V_say, _, _, rfl⟩
theorem mo_V_wipe : mo_ok m_V_wipe 0 := ⟨wc_V_wipe, wn_V, by decide, by decide, by decide +kernel⟩
theorem ok_V_wipe : mv_ok m_V_wipe 0 4 := ⟨mo_V_wipe, wi_V_wipe, wv_V_wipe, _, _, rfl⟩
theorem mo_V_fault : mo_ok m_V_fault 0 := ⟨wc_V_fault, wn_V, by decide, by decide, by decide +kernel⟩
theorem ok_V_fault : mv_ok m_V_fault 0 4 := ⟨mo_V_fault, wi_V_fault, wv_V_fault, _, _, rfl⟩
theorem mo_V_judge : mo_ok m_V_judge 1 := ⟨wc_V_judge, wn_V, by decide, by decide, by decide +kernel⟩
theorem ok_V_judge : mv_ok m_V_judge 1 4 := ⟨mo_V_judge, wi_V_judge, wv_V_judge, _, _, rfl⟩
theorem mo_V_done : mo_ok m_V_done 0 := ⟨wc_V_done, wn_V, by decide, by decide, by decide +kernel⟩
theorem ok_V_done : mv_ok m_V_done 0 4 := ⟨mo_V_done, wi_V_done, wv_V_done, _, _, rfl⟩
theorem mo_V_knows : mo_ok m_V_knows 1 := ⟨wc_V_knows, wn_V, by decide, by decide, by decide +kernel⟩
theorem ok_V_knows : mv_ok m_V_knows 1 4 := ⟨mo_V_knows, wi_V_knows, wv_V_knows, _, _, rfl⟩
theorem mo_V_behind : mo_ok m_V_behind 1 := ⟨wc_V_behind, wn_V, by decide, by decide, by decide +kernel⟩
theorem ok_V_behind : mv_ok m_V_behind 1 4 := ⟨mo_V_behind, wi_V_behind, wv_V_behind, _, _, rfl⟩
theorem mo_V_who : mo_ok m_V_who 1 := ⟨wc_V_who, wn_V, by decide, by decide, by decide +kernel⟩
theorem ok_V_who : mv_ok m_V_who 1 4 := ⟨mo_V_who, wi_V_who, wv_V_who, _, _, rfl⟩
theorem mo_V_loud : mo_ok m_V_loud 2 := ⟨wc_V_loud, wn_V, by decide, by decide, by decide +kernel⟩
theorem ok_V_loud : mv_ok m_V_loud 2 4 := ⟨mo_V_loud, wi_V_loud, wv_V_loud, _, _, rfl⟩
theorem mo_V_hears : mo_ok m_V_hears 1 := ⟨wc_V_hears, wn_V, by decide, by decide, by decide +kernel⟩
theorem ok_V_hears : mv_ok m_V_hears 1 4 := ⟨mo_V_hears, wi_V_hears, wv_V_hears, _, _, rfl⟩
theorem mo_V_best : mo_ok m_V_best 2 := ⟨wc_V_best, wn_V, by decide, by decide, by decide +kernel⟩
theorem ok_V_best : mv_ok m_V_best 2 4 := ⟨mo_V_best, wi_V_best, wv_V_best, _, _, rfl⟩
theorem mo_V_thirds : mo_ok m_V_thirds 2 := ⟨wc_V_thirds, wn_V, by decide, by decide, by decide +kernel⟩
theorem ok_V_thirds : mv_ok m_V_thirds 2 4 := ⟨mo_V_thirds, wi_V_thirds, wv_V_thirds, _, _, rfl⟩
theorem mo_V_round : mo_ok m_V_round 2 := ⟨wc_V_round, wn_V, by decide, by decide, by decide +kernel⟩
theorem ok_V_round : mv_ok m_V_round 2 4 := ⟨mo_V_round, wi_V_round, wv_V_round, _, _, rfl⟩
theorem mo_V_seen : mo_ok m_V_seen 2 := ⟨wc_V_seen, wn_V, by decide, by decide, by decide +kernel⟩
theorem ok_V_seen : mv_ok m_V_seen 2 4 := ⟨mo_V_seen, wi_V_seen, wv_V_seen, _, _, rfl⟩
theorem mo_V_forget : mo_ok m_V_forget 0 := ⟨wc_V_forget, wn_V, by decide, by decide, by decide +kernel⟩
theorem ok_V_forget : mv_ok m_V_forget 0 4 := ⟨mo_V_forget, wi_V_forget, wv_V_forget, _, _, rfl⟩
theorem mo_V_at : mo_ok m_V_at 0 := ⟨wc_V_at, wn_V, by decide, by decide, by decide +kernel⟩
theorem ok_V_at : mv_ok m_V_at 0 4 := ⟨mo_V_at, wi_V_at, wv_V_at, _, _, rfl⟩
theorem mo_V_ask : mo_ok m_V_ask 1 := ⟨wc_V_ask, wn_V, by decide, by decide, by decide +kernel⟩
theorem ok_V_ask : mv_ok m_V_ask 1 4 := ⟨mo_V_ask, wi_V_ask, wv_V_ask, _, _, rfl⟩
theorem mo_V_rumour : mo_ok m_V_rumour 2 := ⟨wc_V_rumour, wn_V, by decide, by decide, by decide +kernel⟩
theorem ok_V_rumour : mv_ok m_V_rumour 2 4 := ⟨mo_V_rumour, wi_V_rumour, wv_V_rumour, _, _, rfl⟩
theorem mo_V_chance : mo_ok m_V_chance 4 := ⟨wc_V_chance, wn_V, by decide, by decide, by decide +kernel⟩
theorem ok_V_chance : mv_ok m_V_chance 4 4 := ⟨mo_V_chance, wi_V_chance, wv_V_chance, _, _, rfl⟩
theorem mo_V_year : mo_ok m_V_year 3 := ⟨wc_V_year, wn_V, by decide, by decide, by decide +kernel⟩
theorem ok_V_year : mv_ok m_V_year 3 4 := ⟨mo_V_year, wi_V_year, wv_V_year, _, _, rfl⟩
theorem mo_V_image : mo_ok m_V_image 1 := ⟨wc_V_image, wn_V, by decide, by decide, by decide +kernel⟩
theorem ok_V_image : mv_ok m_V_image 1 4 := ⟨mo_V_image, wi_V_image, wv_V_image, _, _, rfl⟩
theorem mo_V_restore : mo_ok m_V_restore 1 := ⟨wc_V_restore, wn_V, by decide, by decide, by decide +kernel⟩
theorem ok_V_restore : mv_ok m_V_restore 1 4 := ⟨mo_V_restore, wi_V_restore, wv_V_restore, _, _, rfl⟩
theorem mo_V_imageNumbered : mo_ok m_V_imageNumbered 1 := ⟨wc_V_imageNumbered, wn_V, by decide, by decide, by decide +kernel⟩
theorem ok_V_imageNumbered : mv_ok m_V_imageNumbered 1 4 := ⟨mo_V_imageNumbered, wi_V_imageNumbered, wv_V_imageNumbered, _, _, rfl⟩
theorem mo_V_told : mo_ok m_V_told 1 := ⟨wc_V_told, wn_V, by decide, by decide, by decide +kernel⟩
theorem ok_V_told : mv_ok m_V_told 1 4 := ⟨mo_V_told, wi_V_told, wv_V_told, _, _, rfl⟩
theorem mo_V_toldOfAll : mo_ok m_V_toldOfAll 1 := ⟨wc_V_toldOfAll, wn_V, by decide, by decide, by decide +kernel⟩
theorem ok_V_toldOfAll : mv_ok m_V_toldOfAll 1 4 := ⟨mo_V_toldOfAll, wi_V_toldOfAll, wv_V_toldOfAll, _, _, rfl⟩
theorem mo_V_toldOfLetter : mo_ok m_V_toldOfLetter 2 := ⟨wc_V_toldOfLetter, wn_V, by decide, by decide, by decide +kernel⟩
theorem ok_V_toldOfLetter : mv_ok m_V_toldOfLetter 2 4 := ⟨mo_V_toldOfLetter, wi_V_toldOfLetter, wv_V_toldOfLetter, _, _, rfl⟩
theorem mo_V_within : mo_ok m_V_within 3 := ⟨wc_V_within, wn_V, by decide, by decide, by decide +kernel⟩
theorem ok_V_within : ms_ok m_V_within 3 := ⟨mo_V_within, ws_V_within⟩
theorem mo_V_hasBit : mo_ok m_V_hasBit 2 := ⟨wc_V_hasBit, wn_V, by decide, by decide, by decide +kernel⟩
theorem ok_V_hasBit : ms_ok m_V_hasBit 2 := ⟨mo_V_hasBit, ws_V_hasBit⟩
theorem mo_V_withBit : mo_ok m_V_withBit 3 := ⟨wc_V_withBit, wn_V, by decide, by decide, by decide +kernel⟩
theorem ok_V_withBit : ms_ok m_V_withBit 3 := ⟨mo_V_withBit, ws_V_withBit⟩
theorem mo_M_init : mo_ok m_M_init 0 := ⟨wc_M_init, wn_M, by decide, by decide, by decide +kernel⟩
theorem ok_M_init : mi_ok m_M_init 0 := ⟨mo_M_init, wi_M_init, rfl, rfl⟩
theorem mo_M_in : mo_ok m_M_in 3 := ⟨wc_M_in, wn_M, by decide, by decide, by decide +kernel⟩
theorem ok_M_in : ms_ok m_M_in 3 := ⟨mo_M_in, ws_M_in⟩
theorem mo_M_has : mo_ok m_M_has 2 := ⟨wc_M_has, wn_M, by decide, by decide, by decide +kernel⟩
theorem ok_M_has : ms_ok m_M_has 2 := ⟨mo_M_has, ws_M_has⟩
theorem mo_M_bits : mo_ok m_M_bits 1 := ⟨wc_M_bits, wn_M, by decide, by decide, by decide +kernel⟩
theorem ok_M_bits : ms_ok m_M_bits 1 := ⟨mo_M_bits, ws_M_bits⟩
theorem mo_M_isHouse : mo_ok m_M_isHouse 1 := ⟨wc_M_isHouse, wn_M, by decide, by decide, by decide +kernel⟩
theorem ok_M_isHouse : ms_ok m_M_isHouse 1 := ⟨mo_M_isHouse, ws_M_isHouse⟩
theorem mo_M_house : mo_ok m_M_house 4 := ⟨wc_M_house, wn_M, by decide, by decide, by decide +kernel⟩
theorem ok_M_house : mv_ok m_M_house 4 5 := ⟨mo_M_house, wi_M_house, wv_M_house, _, _, rfl⟩
theorem mo_M_wall : mo_ok m_M_wall 2 := ⟨wc_M_wall, wn_M, by decide, by decide, by decide +kernel⟩
theorem ok_M_wall : mv_ok m_M_wall 2 5 := ⟨mo_M_wall, wi_M_wall, wv_M_wall, _, _, rfl⟩
theorem mo_M_set : mo_ok m_M_set 2 := ⟨wc_M_set, wn_M, by decide, by decide, by decide +kernel⟩
theorem ok_M_set : mv_ok m_M_set 2 5 := ⟨mo_M_set, wi_M_set, wv_M_set, _, _, rfl⟩
theorem mo_M_letter : mo_ok m_M_letter 5 := ⟨wc_M_letter, wn_M, by decide, by decide, by decide +kernel⟩
theorem ok_M_letter : mv_ok m_M_letter 5 5 := ⟨mo_M_letter, wi_M_letter, wv_M_letter, _, _, rfl⟩
theorem mo_M_say : mo_ok m_M_say 1 := ⟨wc_M_say, wn_M, by decide, by decide, by decide +kernel⟩
theorem ok_M_say : mv_ok m_M_say 1 5 := ⟨mo_M_say, wi_M_say, wv_M_say, _, _, rfl⟩
theorem mo_M_wipe : mo_ok m_M_wipe 0 := ⟨wc_M_wipe, wn_M, by decide, by decide, by decide +kernel⟩
theorem ok_M_wipe : mv_ok m_M_wipe 0 5 := ⟨mo_M_wipe, wi_M_wipe, wv_M_wipe, _, _, rfl⟩
theorem mo_M_isLetter : mo_ok m_M_isLetter 1 := ⟨wc_M_isLetter, wn_M, by decide, by decide, by decide +kernel⟩
theorem ok_M_isLetter : ms_ok m_M_isLetter 1 := ⟨mo_M_isLetter, ws_M_isLetter⟩
theorem mo_M_faultOf : mo_ok m_M_faultOf 0 := ⟨wc_M_faultOf, wn_M, by decide, by decide, by decide +kernel⟩
theorem ok_M_faultOf : mv_ok m_M_faultOf 0 5 := ⟨mo_M_faultOf, wi_M_faultOf, wv_M_faultOf, _, _, rfl⟩
theorem mo_M_fault : mo_ok m_M_fault 0 := ⟨wc_M_fault, wn_M, by decide, by decide, by decide +kernel⟩
theorem ok_M_fault : mv_ok m_M_fault 0 5 := ⟨mo_M_fault, wi_M_fault, wv_M_fault, _, _, rfl⟩
theorem mo_M_loudAt : mo_ok m_M_loudAt 2 := ⟨wc_M_loudAt, wn_M, by decide, by decide, by decide +kernel⟩
theorem ok_M_loudAt : mv_ok m_M_loudAt 2 5 := ⟨mo_M_loudAt, wi_M_loudAt, wv_M_loudAt, _, _, rfl⟩
theorem mo_M_doesHear : mo_ok m_M_doesHear 3 := ⟨wc_M_doesHear, wn_M, by decide, by decide, by decide +kernel⟩
theorem ok_M_doesHear : mv_ok m_M_doesHear 3 5 := ⟨mo_M_doesHear, wi_M_doesHear, wv_M_doesHear, _, _, rfl⟩
theorem mo_M_hearers : mo_ok m_M_hearers 2 := ⟨wc_M_hearers, wn_M, by decide, by decide, by decide +kernel⟩
theorem ok_M_hearers : mv_ok m_M_hearers 2 5 := ⟨mo_M_hearers, wi_M_hearers, wv_M_hearers, _, _, rfl⟩
theorem mo_M_asNow : mo_ok m_M_asNow 0 := ⟨wc_M_asNow, wn_M, by decide, by decide, by decide +kernel⟩
theorem ok_M_asNow : mv_ok m_M_asNow 0 5 := ⟨mo_M_asNow, wi_M_asNow, wv_M_asNow, _, _, rfl⟩
theorem mo_M_goTo : mo_ok m_M_goTo 1 := ⟨wc_M_goTo, wn_M, by decide, by decide, by decide +kernel⟩
theorem ok_M_goTo : mv_ok m_M_goTo 1 5 := ⟨mo_M_goTo, wi_M_goTo, wv_M_goTo, _, _, rfl⟩
theorem mo_M_read : mo_ok m_M_read 1 := ⟨wc_M_read, wn_M, by decide, by decide, by decide +kernel⟩
theorem ok_M_read : mv_ok m_M_read 1 5 := ⟨mo_M_read, wi_M_read, wv_M_read, _, _, rfl⟩
theorem mo_M_evening : mo_ok m_M_evening 0 := ⟨wc_M_evening, wn_M, by decide, by decide, by decide +kernel⟩
theorem ok_M_evening : mv_ok m_M_evening 0 5 := ⟨mo_M_evening, wi_M_evening, wv_M_evening, _, _, rfl⟩
theorem mo_M_goDays : mo_ok m_M_goDays 0 := ⟨wc_M_goDays, wn_M, by decide, by decide, by decide +kernel⟩
theorem ok_M_goDays : mv_ok m_M_goDays 0 5 := ⟨mo_M_goDays, wi_M_goDays, wv_M_goDays, _, _, rfl⟩
theorem mo_M_judge : mo_ok m_M_judge 1 := ⟨wc_M_judge, wn_M, by decide, by decide, by decide +kernel⟩
theorem ok_M_judge : mv_ok m_M_judge 1 5 := ⟨mo_M_judge, wi_M_judge, wv_M_judge, _, _, rfl⟩
theorem mo_M_barOfDays : mo_ok m_M_barOfDays 0 := ⟨wc_M_barOfDays, wn_M, by decide, by decide, by decide +kernel⟩
theorem ok_M_barOfDays : mv_ok m_M_barOfDays 0 5 := ⟨mo_M_barOfDays, wi_M_barOfDays, wv_M_barOfDays, _, _, rfl⟩
theorem mo_M_done : mo_ok m_M_done 0 := ⟨wc_M_done, wn_M, by decide, by decide, by decide +kernel⟩
theorem ok_M_done : mv_ok m_M_done 0 5 := ⟨mo_M_done, wi_M_done, wv_M_done, _, _, rfl⟩
theorem mo_M_knows : mo_ok m_M_knows 1 := ⟨wc_M_knows, wn_M, by decide, by decide, by decide +kernel⟩
theorem ok_M_knows : mv_ok m_M_knows 1 5 := ⟨mo_M_knows, wi_M_knows, wv_M_knows, _, _, rfl⟩
theorem mo_M_behind : mo_ok m_M_behind 1 := ⟨wc_M_behind, wn_M, by decide, by decide, by decide +kernel⟩
theorem ok_M_behind : mv_ok m_M_behind 1 5 := ⟨mo_M_behind, wi_M_behind, wv_M_behind, _, _, rfl⟩
theorem mo_M_who : mo_ok m_M_who 1 := ⟨wc_M_who, wn_M, by decide, by decide, by decide +kernel⟩
theorem ok_M_who : mv_ok m_M_who 1 5 := ⟨mo_M_who, wi_M_who, wv_M_who, _, _, rfl⟩
theorem mo_M_loud : mo_ok m_M_loud 2 := ⟨wc_M_loud, wn_M, by decide, by decide, by decide +kernel⟩
theorem ok_M_loud : mv_ok m_M_loud 2 5 := ⟨mo_M_loud, wi_M_loud, wv_M_loud, _, _, rfl⟩
theorem mo_M_hears : mo_ok m_M_hears 1 := ⟨wc_M_hears, wn_M, by decide, by decide, by decide +kernel⟩
theorem ok_M_hears : mv_ok m_M_hears 1 5 := ⟨mo_M_hears, wi_M_hears, wv_M_hears, _, _, rfl⟩
theorem mo_M_best : mo_ok m_M_best 2 := ⟨wc_M_best, wn_M, by decide, by decide, by decide +kernel⟩
theorem ok_M_best : mv_ok m_M_best 2 5 := ⟨mo_M_best, wi_M_best, wv_M_best, _, _, rfl⟩
theorem mo_M_laySets : mo_ok m_M_laySets 0 := ⟨wc_M_laySets, wn_M, by decide, by decide, by decide +kernel⟩
theorem ok_M_laySets : mv_ok m_M_laySets 0 5 := ⟨mo_M_laySets, wi_M_laySets, wv_M_laySets, _, _, rfl⟩
theorem mo_M_thirds : mo_ok m_M_thirds 2 := ⟨wc_M_thirds, wn_M, by decide, by decide, by decide +kernel⟩
theorem ok_M_thirds : mv_ok m_M_thirds 2 5 := ⟨mo_M_thirds, wi_M_thirds, wv_M_thirds, _, _, rfl⟩
theorem mo_M_round : mo_ok m_M_round 2 := ⟨wc_M_round, wn_M, by decide, by decide, by decide +kernel⟩
theorem ok_M_round : mv_ok m_M_round 2 5 := ⟨mo_M_round, wi_M_round, wv_M_round, _, _, rfl⟩
theorem mo_M_seen : mo_ok m_M_seen 2 := ⟨wc_M_seen, wn_M, by decide, by decide, by decide +kernel⟩
theorem ok_M_seen : mv_ok m_M_seen 2 5 := ⟨mo_M_seen, wi_M_seen, wv_M_seen, _, _, rfl⟩
theorem mo_M_forget : mo_ok m_M_forget 0 := ⟨wc_M_forget, wn_M, by decide, by decide, by decide +kernel⟩
theorem ok_M_forget : mv_ok m_M_forget 0 5 := ⟨mo_M_forget, wi_M_forget, wv_M_forget, _, _, rfl⟩
theorem mo_M_atSet : mo_ok m_M_atSet 0 := ⟨wc_M_atSet, wn_M, by decide, by decide, by decide +kernel⟩
theorem ok_M_atSet : mv_ok m_M_atSet 0 5 := ⟨mo_M_atSet, wi_M_atSet, wv_M_atSet, _, _, rfl⟩
theorem mo_M_at : mo_ok m_M_at 0 := ⟨wc_M_at, wn_M, by decide, by decide, by decide +kernel⟩
theorem ok_M_at : mv_ok m_M_at 0 5 := ⟨mo_M_at, wi_M_at, wv_M_at, _, _, rfl⟩
theorem mo_M_ask : mo_ok m_M_ask 1 := ⟨wc_M_ask, wn_M, by decide, by decide, by decide +kernel⟩
theorem ok_M_ask : mv_ok m_M_ask 1 5 := ⟨mo_M_ask, wi_M_ask, wv_M_ask, _, _, rfl⟩
theorem mo_M_spread : mo_ok m_M_spread 1 := ⟨wc_M_spread, wn_M, by decide, by decide, by decide +kernel⟩
theorem ok_M_spread : mv_ok m_M_spread 1 5 := ⟨mo_M_spread, wi_M_spread, wv_M_spread, _, _, rfl⟩
theorem mo_M_rumour : mo_ok m_M_rumour 2 := ⟨wc_M_rumour, wn_M, by decide, by decide, by decide +kernel⟩
theorem ok_M_rumour : mv_ok m_M_rumour 2 5 := ⟨mo_M_rumour, wi_M_rumour, wv_M_rumour, _, _, rfl⟩
theorem mo_M_chance : mo_ok m_M_chance 4 := ⟨wc_M_chance, wn_M, by decide, by decide, by decide +kernel⟩
theorem ok_M_chance : mv_ok m_M_chance 4 5 := ⟨mo_M_chance, wi_M_chance, wv_M_chance, _, _, rfl⟩
theorem mo_M_year : mo_ok m_M_year 3 := ⟨wc_M_year, wn_M, by decide, by decide, by decide +kernel⟩
theorem ok_M_year : mv_ok m_M_year 3 5 := ⟨mo_M_year, wi_M_year, wv_M_year, _, _, rfl⟩
theorem mo_M_image : mo_ok m_M_image 1 := ⟨wc_M_image, wn_M, by decide, by decide, by decide +kernel⟩
theorem ok_M_image : mv_ok m_M_image 1 5 := ⟨mo_M_image, wi_M_image, wv_M_image, _, _, rfl⟩
theorem mo_M_restore : mo_ok m_M_restore 1 := ⟨wc_M_restore, wn_M, by decide, by decide, by decide +kernel⟩
theorem ok_M_restore : mv_ok m_M_restore 1 5 := ⟨mo_M_restore, wi_M_restore, wv_M_restore, _, _, rfl⟩
theorem mo_M_told : mo_ok m_M_told 1 := ⟨wc_M_told, wn_M, by decide, by decide, by decide +kernel⟩
theorem ok_M_told : mv_ok m_M_told 1 5 := ⟨mo_M_told, wi_M_told, wv_M_told, _, _, rfl⟩
theorem mo_C_init : mo_ok m_C_init 0 := ⟨wc_C_init, wn_C, by decide, by decide, by decide +kernel⟩
theorem ok_C_init : mi_ok m_C_init 0 := ⟨mo_C_init, wi_C_init, rfl, rfl⟩
theorem mo_C_weigh : mo_ok m_C_weigh 2 := ⟨wc_C_weigh, wn_C, by decide, by decide, by decide +kernel⟩
theorem ok_C_weigh : mv_ok m_C_weigh 2 0 := ⟨mo_C_weigh, wi_C_weigh, wv_C_weigh, _, _, rfl⟩
theorem mo_C_findMean : mo_ok m_C_findMean 1 := ⟨wc_C_findMean, wn_C, by decide, by decide, by decide +kernel⟩
theorem ok_C_findMean : mv_ok m_C_findMean 1 0 := ⟨mo_C_findMean, wi_C_findMean, wv_C_findMean, _, _, rfl⟩
theorem mo_C_findAtMost : mo_ok m_C_findAtMost 2 := ⟨wc_C_findAtMost, wn_C, by decide, by decide, by decide +kernel⟩
theorem ok_C_findAtMost : mv_ok m_C_findAtMost 2 0 := ⟨mo_C_findAtMost, wi_C_findAtMost, wv_C_findAtMost, _, _, rfl⟩
theorem mo_C_countWays : mo_ok m_C_countWays 1 := ⟨wc_C_countWays, wn_C, by decide, by decide, by decide +kernel⟩
theorem ok_C_countWays : mv_ok m_C_countWays 1 0 := ⟨mo_C_countWays, wi_C_countWays, wv_C_countWays, _, _, rfl⟩
theorem mo_C_putLowest : mo_ok m_C_putLowest 2 := ⟨wc_C_putLowest, wn_C, by decide, by decide, by decide +kernel⟩
theorem ok_C_putLowest : mv_ok m_C_putLowest 2 0 := ⟨mo_C_putLowest, wi_C_putLowest, wv_C_putLowest, _, _, rfl⟩
theorem mo_C_greatestDivisor : mo_ok m_C_greatestDivisor 2 := ⟨wc_C_greatestDivisor, wn_C, by decide, by decide, by decide +kernel⟩
theorem ok_C_greatestDivisor : ms_ok m_C_greatestDivisor 2 := ⟨mo_C_greatestDivisor, ws_C_greatestDivisor⟩
theorem mo_L_init : mo_ok m_L_init 0 := ⟨wc_L_init, wn_L, by decide, by decide, by decide +kernel⟩
theorem ok_L_init : mi_ok m_L_init 0 := ⟨mo_L_init, wi_L_init, rfl, rfl⟩
theorem mo_L_listen : mo_ok m_L_listen 1 := ⟨wc_L_listen, wn_L, by decide, by decide, by decide +kernel⟩
theorem ok_L_listen : mv_ok m_L_listen 1 1 := ⟨mo_L_listen, wi_L_listen, wv_L_listen, _, _, rfl⟩
theorem mo_L_placesFor : mo_ok m_L_placesFor 1 := ⟨wc_L_placesFor, wn_L, by decide, by decide, by decide +kernel⟩
theorem ok_L_placesFor : mv_ok m_L_placesFor 1 1 := ⟨mo_L_placesFor, wi_L_placesFor, wv_L_placesFor, _, _, rfl⟩
theorem mo_L_bestFor : mo_ok m_L_bestFor 2 := ⟨wc_L_bestFor, wn_L, by decide, by decide, by decide +kernel⟩
theorem ok_L_bestFor : mv_ok m_L_bestFor 2 1 := ⟨mo_L_bestFor, wi_L_bestFor, wv_L_bestFor, _, _, rfl⟩
theorem mo_L_thirdsFor : mo_ok m_L_thirdsFor 2 := ⟨wc_L_thirdsFor, wn_L, by decide, by decide, by decide +kernel⟩
theorem ok_L_thirdsFor : mv_ok m_L_thirdsFor 2 1 := ⟨mo_L_thirdsFor, wi_L_thirdsFor, wv_L_thirdsFor, _, _, rfl⟩
theorem mo_L_leastWalk : mo_ok m_L_leastWalk 3 := ⟨wc_L_leastWalk, wn_L, by decide, by decide, by decide +kernel⟩
theorem ok_L_leastWalk : mv_ok m_L_leastWalk 3 1 := ⟨mo_L_leastWalk, wi_L_leastWalk, wv_L_leastWalk, _, _, rfl⟩
theorem mo_L_allCanBeRead : mo_ok m_L_allCanBeRead 4 := ⟨wc_L_allCanBeRead, wn_L, by decide, by decide, by decide +kernel⟩
theorem ok_L_allCanBeRead : mv_ok m_L_allCanBeRead 4 1 := ⟨mo_L_allCanBeRead, wi_L_allCanBeRead, wv_L_allCanBeRead, _, _, rfl⟩
theorem mo_L_placesThatFit : mo_ok m_L_placesThatFit 1 := ⟨wc_L_placesThatFit, wn_L, by decide, by decide, by decide +kernel⟩
theorem ok_L_placesThatFit : mv_ok m_L_placesThatFit 1 1 := ⟨mo_L_placesThatFit, wi_L_placesThatFit, wv_L_placesThatFit, _, _, rfl⟩
theorem mo_L_bestToAsk : mo_ok m_L_bestToAsk 2 := ⟨wc_L_bestToAsk, wn_L, by decide, by decide, by decide +kernel⟩
theorem ok_L_bestToAsk : mv_ok m_L_bestToAsk 2 1 := ⟨mo_L_bestToAsk, wi_L_bestToAsk, wv_L_bestToAsk, _, _, rfl⟩
theorem mo_P_init : mo_ok m_P_init 0 := ⟨wc_P_init, wn_P, by decide, by decide, by decide +kernel⟩
theorem ok_P_init : mi_ok m_P_init 0 := ⟨mo_P_init, wi_P_init, rfl, rfl⟩
theorem mo_P_write : mo_ok m_P_write 1 := ⟨wc_P_write, wn_P, by decide, by decide, by decide +kernel⟩
theorem ok_P_write : mv_ok m_P_write 1 2 := ⟨mo_P_write, wi_P_write, wv_P_write, _, _, rfl⟩
theorem mo_P_clean : mo_ok m_P_clean 0 := ⟨wc_P_clean, wn_P, by decide, by decide, by decide +kernel⟩
theorem ok_P_clean : mv_ok m_P_clean 0 2 := ⟨mo_P_clean, wi_P_clean, wv_P_clean, _, _, rfl⟩
theorem mo_P_faultPlace : mo_ok m_P_faultPlace 0 := ⟨wc_P_faultPlace, wn_P, by decide, by decide, by decide +kernel⟩
theorem ok_P_faultPlace : mv_ok m_P_faultPlace 0 2 := ⟨mo_P_faultPlace, wi_P_faultPlace, wv_P_faultPlace, _, _, rfl⟩
theorem mo_P_kindOf : mo_ok m_P_kindOf 1 := ⟨wc_P_kindOf, wn_P, by decide, by decide, by decide +kernel⟩
theorem ok_P_kindOf : ms_ok m_P_kindOf 1 := ⟨mo_P_kindOf, ws_P_kindOf⟩
theorem mo_P_numberOf : mo_ok m_P_numberOf 1 := ⟨wc_P_numberOf, wn_P, by decide, by decide, by decide +kernel⟩
theorem ok_P_numberOf : ms_ok m_P_numberOf 1 := ⟨mo_P_numberOf, ws_P_numberOf⟩
theorem mo_P_playsToTheEnd : mo_ok m_P_playsToTheEnd 2 := ⟨wc_P_playsToTheEnd, wn_P, by decide, by decide, by decide +kernel⟩
theorem ok_P_playsToTheEnd : mv_ok m_P_playsToTheEnd 2 2 := ⟨mo_P_playsToTheEnd, wi_P_playsToTheEnd, wv_P_playsToTheEnd, _, _, rfl⟩
theorem mo_P_playAct : mo_ok m_P_playAct 3 := ⟨wc_P_playAct, wn_P, by decide, by decide, by decide +kernel⟩
theorem ok_P_playAct : mv_ok m_P_playAct 3 2 := ⟨mo_P_playAct, wi_P_playAct, wv_P_playAct, _, _, rfl⟩
theorem mo_P_goesAstray : mo_ok m_P_goesAstray 2 := ⟨wc_P_goesAstray, wn_P, by decide, by decide, by decide +kernel⟩
theorem ok_P_goesAstray : ms_ok m_P_goesAstray 2 := ⟨mo_P_goesAstray, ws_P_goesAstray⟩
theorem mo_S_init : mo_ok m_S_init 0 := ⟨wc_S_init, wn_S, by decide, by decide, by decide +kernel⟩
theorem ok_S_init : mi_ok m_S_init 0 := ⟨mo_S_init, wi_S_init, rfl, rfl⟩
theorem mo_S_takeFrom : mo_ok m_S_takeFrom 1 := ⟨wc_S_takeFrom, wn_S, by decide, by decide, by decide +kernel⟩
theorem ok_S_takeFrom : mv_ok m_S_takeFrom 1 3 := ⟨mo_S_takeFrom, wi_S_takeFrom, wv_S_takeFrom, _, _, rfl⟩
theorem mo_S_loudness : mo_ok m_S_loudness 2 := ⟨wc_S_loudness, wn_S, by decide, by decide, by decide +kernel⟩
theorem ok_S_loudness : mv_ok m_S_loudness 2 3 := ⟨mo_S_loudness, wi_S_loudness, wv_S_loudness, _, _, rfl⟩
theorem mo_S_reached : mo_ok m_S_reached 2 := ⟨wc_S_reached, wn_S, by decide, by decide, by decide +kernel⟩
theorem ok_S_reached : mv_ok m_S_reached 2 3 := ⟨mo_S_reached, wi_S_reached, wv_S_reached, _, _, rfl⟩
theorem mo_S_hearers : mo_ok m_S_hearers 2 := ⟨wc_S_hearers, wn_S, by decide, by decide, by decide +kernel⟩
theorem ok_S_hearers : mv_ok m_S_hearers 2 3 := ⟨mo_S_hearers, wi_S_hearers, wv_S_hearers, _, _, rfl⟩
theorem mo_S_whyNot : mo_ok m_S_whyNot 2 := ⟨wc_S_whyNot, wn_S, by decide, by decide, by decide +kernel⟩
theorem ok_S_whyNot : mv_ok m_S_whyNot 2 3 := ⟨mo_S_whyNot, wi_S_whyNot, wv_S_whyNot, _, _, rfl⟩
theorem mo_S_carryOut : mo_ok m_S_carryOut 2 := ⟨wc_S_carryOut, wn_S, by decide, by decide, by decide +kernel⟩
theorem ok_S_carryOut : mv_ok m_S_carryOut 2 3 := ⟨mo_S_carryOut, wi_S_carryOut, wv_S_carryOut, _, _, rfl⟩
theorem mo_S_readOut : mo_ok m_S_readOut 1 := ⟨wc_S_readOut, wn_S, by decide, by decide, by decide +kernel⟩
theorem ok_S_readOut : mv_ok m_S_readOut 1 3 := ⟨mo_S_readOut, wi_S_readOut, wv_S_readOut, _, _, rfl⟩
theorem mo_S_passEvening : mo_ok m_S_passEvening 0 := ⟨wc_S_passEvening, wn_S, by decide, by decide, by decide +kernel⟩
theorem ok_S_passEvening : mv_ok m_S_passEvening 0 3 := ⟨mo_S_passEvening, wi_S_passEvening, wv_S_passEvening, _, _, rfl⟩
theorem mo_S_tellsEastward : mo_ok m_S_tellsEastward 1 := ⟨wc_S_tellsEastward, wn_S, by decide, by decide, by decide +kernel⟩
theorem ok_S_tellsEastward : mv_ok m_S_tellsEastward 1 3 := ⟨mo_S_tellsEastward, wi_S_tellsEastward, wv_S_tellsEastward, _, _, rfl⟩
theorem mo_S_knowersOfRumour : mo_ok m_S_knowersOfRumour 2 := ⟨wc_S_knowersOfRumour, wn_S, by decide, by decide, by decide +kernel⟩
theorem ok_S_knowersOfRumour : mv_ok m_S_knowersOfRumour 2 3 := ⟨mo_S_knowersOfRumour, wi_S_knowersOfRumour, wv_S_knowersOfRumour, _, _, rfl⟩
theorem mo_S_eveningsOfRumour : mo_ok m_S_eveningsOfRumour 1 := ⟨wc_S_eveningsOfRumour, wn_S, by decide, by decide, by decide +kernel⟩
theorem ok_S_eveningsOfRumour : mv_ok m_S_eveningsOfRumour 1 3 := ⟨mo_S_eveningsOfRumour, wi_S_eveningsOfRumour, wv_S_eveningsOfRumour, _, _, rfl⟩
theorem mo_S_toldOnward : mo_ok m_S_toldOnward 1 := ⟨wc_S_toldOnward, wn_S, by decide, by decide, by decide +kernel⟩
theorem ok_S_toldOnward : mv_ok m_S_toldOnward 1 3 := ⟨mo_S_toldOnward, wi_S_toldOnward, wv_S_toldOnward, _, _, rfl⟩
theorem mo_S_drawYear : mo_ok m_S_drawYear 2 := ⟨wc_S_drawYear, wn_S, by decide, by decide, by decide +kernel⟩
theorem ok_S_drawYear : mv_ok m_S_drawYear 2 3 := ⟨mo_S_drawYear, wi_S_drawYear, wv_S_drawYear, _, _, rfl⟩
theorem mo_S_drawnKind : mo_ok m_S_drawnKind 1 := ⟨wc_S_drawnKind, wn_S, by decide, by decide, by decide +kernel⟩
theorem ok_S_drawnKind : ms_ok m_S_drawnKind 1 := ⟨mo_S_drawnKind, ws_S_drawnKind⟩
theorem mo_S_factsKnown : mo_ok m_S_factsKnown 0 := ⟨wc_S_factsKnown, wn_S, by decide, by decide, by decide +kernel⟩
theorem ok_S_factsKnown : mv_ok m_S_factsKnown 0 3 := ⟨mo_S_factsKnown, wi_S_factsKnown, wv_S_factsKnown, _, _, rfl⟩
theorem mo_B_bitCount : mo_ok m_B_bitCount 1 := ⟨wc_B_bitCount, wn_B, by decide, by decide, by decide +kernel⟩
theorem ok_B_bitCount : ms_ok m_B_bitCount 1 := ⟨mo_B_bitCount, ws_B_bitCount⟩
theorem lp_V_10 : fp_ok "DoorVoice" 10 4 0 true (.object "DoorVoice$Street") := by
  obtain ⟨C, T, N, ty, hc, hj, hw⟩ := lf_V_10
  have e1 := hc.1
  exact ⟨_, tb_4, _, ty_4, cl_4, by decide, by
    obtain ⟨rfl, rfl, rfl⟩ : C = "DoorVoice" ∧ T = tb_4 ∧ N = 8 := by
      have e2 := cl_4.1.symm.trans e1
      injection e2 with e2
      injection e2 with e3 e4
      injection e4 with e5 e6
      exact ⟨e3.symm, e5.symm, e6.symm⟩
    exact hw, rfl, rfl, fun _ => rfl⟩
theorem lp_V_16 : fp_ok "DoorVoice" 16 4 1 true (.object "DoorVoice$Street") := by
  obtain ⟨C, T, N, ty, hc, hj, hw⟩ := lf_V_16
  have e1 := hc.1
  exact ⟨_, tb_4, _, ty_4, cl_4, by decide, by
    obtain ⟨rfl, rfl, rfl⟩ : C = "DoorVoice" ∧ T = tb_4 ∧ N = 8 := by
      have e2 := cl_4.1.symm.trans e1
      injection e2 with e2
      injection e2 with e3 e4
      injection e4 with e5 e6
      exact ⟨e3.symm, e5.symm, e6.symm⟩
    exact hw, rfl, rfl, fun _ => rfl⟩
theorem lp_V_19 : fp_ok "DoorVoice" 19 4 2 true (.object "DoorVoice$Street") := by
  obtain ⟨C, T, N, ty, hc, hj, hw⟩ := lf_V_19
  have e1 := hc.1
  exact ⟨_, tb_4, _, ty_4, cl_4, by decide, by
    obtain ⟨rfl, rfl, rfl⟩ : C = "DoorVoice" ∧ T = tb_4 ∧ N = 8 := by
      have e2 := cl_4.1.symm.trans e1
      injection e2 with e2
      injection e2 with e3 e4
      injection e4 with e5 e6
      exact ⟨e3.symm, e5.symm, e6.symm⟩
    exact hw, rfl, rfl, fun _ => rfl⟩
theorem lp_V_22 : fp_ok "DoorVoice" 22 4 3 true (.object "DoorVoice$Street") := by
  obtain ⟨C, T, N, ty, hc, hj, hw⟩ := lf_V_22
  have e1 := hc.1
  exact ⟨_, tb_4, _, ty_4, cl_4, by decide, by
    obtain ⟨rfl, rfl, rfl⟩ : C = "DoorVoice" ∧ T = tb_4 ∧ N = 8 := by
      have e2 := cl_4.1.symm.trans e1
      injection e2 with e2
      injection e2 with e3 e4
      injection e4 with e5 e6
      exact ⟨e3.symm, e5.symm, e6.symm⟩
    exact hw, rfl, rfl, fun _ => rfl⟩
theorem lp_V_28 : fp_ok "DoorVoice" 28 4 4 true (.object "DoorVoice$Pad") := by
  obtain ⟨C, T, N, ty, hc, hj, hw⟩ := lf_V_28
  have e1 := hc.1
  exact ⟨_, tb_4, _, ty_4, cl_4, by decide, by
    obtain ⟨rfl, rfl, rfl⟩ : C = "DoorVoice" ∧ T = tb_4 ∧ N = 8 := by
      have e2 := cl_4.1.symm.trans e1
      injection e2 with e2
      injection e2 with e3 e4
      injection e4 with e5 e6
      exact ⟨e3.symm, e5.symm, e6.symm⟩
    exact hw, rfl, rfl, fun _ => rfl⟩
theorem lp_V_35 : fp_ok "DoorVoice" 35 4 5 true (.object "DoorVoice$Listener") := by
  obtain ⟨C, T, N, ty, hc, hj, hw⟩ := lf_V_35
  have e1 := hc.1
  exact ⟨_, tb_4, _, ty_4, cl_4, by decide, by
    obtain ⟨rfl, rfl, rfl⟩ : C = "DoorVoice" ∧ T = tb_4 ∧ N = 8 := by
      have e2 := cl_4.1.symm.trans e1
      injection e2 with e2
      injection e2 with e3 e4
      injection e4 with e5 e6
      exact ⟨e3.symm, e5.symm, e6.symm⟩
    exact hw, rfl, rfl, fun _ => rfl⟩
theorem lp_V_42 : fp_ok "DoorVoice" 42 4 6 true (.object "DoorVoice$Chances") := by
  obtain ⟨C, T, N, ty, hc, hj, hw⟩ := lf_V_42
  have e1 := hc.1
  exact ⟨_, tb_4, _, ty_4, cl_4, by decide, by
    obtain ⟨rfl, rfl, rfl⟩ : C = "DoorVoice" ∧ T = tb_4 ∧ N = 8 := by
      have e2 := cl_4.1.symm.trans e1
      injection e2 with e2
      injection e2 with e3 e4
      injection e4 with e5 e6
      exact ⟨e3.symm, e5.symm, e6.symm⟩
    exact hw, rfl, rfl, fun _ => rfl⟩
theorem lp_V_46 : fp_ok "DoorVoice" 46 4 7 false (.int) := by
  obtain ⟨C, T, N, ty, hc, hj, hw⟩ := lf_V_46
  have e1 := hc.1
  exact ⟨_, tb_4, _, ty_4, cl_4, by decide, by
    obtain ⟨rfl, rfl, rfl⟩ : C = "DoorVoice" ∧ T = tb_4 ∧ N = 8 := by
      have e2 := cl_4.1.symm.trans e1
      injection e2 with e2
      injection e2 with e3 e4
      injection e4 with e5 e6
      exact ⟨e3.symm, e5.symm, e6.symm⟩
    exact hw, rfl, rfl, fun h => by cases h⟩
theorem lp_V_58 : fp_ok "DoorVoice" 58 3 6 false (.int) := by
  obtain ⟨C, T, N, ty, hc, hj, hw⟩ := lf_V_58
  have e1 := hc.1
  exact ⟨_, tb_3, _, ty_3, cl_3, by decide, by
    obtain ⟨rfl, rfl, rfl⟩ : C = "DoorVoice$Street" ∧ T = tb_3 ∧ N = 16 := by
      have e2 := cl_3.1.symm.trans e1
      injection e2 with e2
      injection e2 with e3 e4
      injection e4 with e5 e6
      exact ⟨e3.symm, e5.symm, e6.symm⟩
    exact hw, rfl, rfl, fun h => by cases h⟩
theorem lp_V_65 : fp_ok "DoorVoice" 65 3 7 false (.int) := by
  obtain ⟨C, T, N, ty, hc, hj, hw⟩ := lf_V_65
  have e1 := hc.1
  exact ⟨_, tb_3, _, ty_3, cl_3, by decide, by
    obtain ⟨rfl, rfl, rfl⟩ : C = "DoorVoice$Street" ∧ T = tb_3 ∧ N = 16 := by
      have e2 := cl_3.1.symm.trans e1
      injection e2 with e2
      injection e2 with e3 e4
      injection e4 with e5 e6
      exact ⟨e3.symm, e5.symm, e6.symm⟩
    exact hw, rfl, rfl, fun h => by cases h⟩
theorem lp_V_81 : fp_ok "DoorVoice" 81 3 9 false (.int) := by
  obtain ⟨C, T, N, ty, hc, hj, hw⟩ := lf_V_81
  have e1 := hc.1
  exact ⟨_, tb_3, _, ty_3, cl_3, by decide, by
    obtain ⟨rfl, rfl, rfl⟩ : C = "DoorVoice$Street" ∧ T = tb_3 ∧ N = 16 := by
      have e2 := cl_3.1.symm.trans e1
      injection e2 with e2
      injection e2 with e3 e4
      injection e4 with e5 e6
      exact ⟨e3.symm, e5.symm, e6.symm⟩
    exact hw, rfl, rfl, fun h => by cases h⟩
theorem lp_V_84 : fp_ok "DoorVoice" 84 3 10 false (.int) := by
  obtain ⟨C, T, N, ty, hc, hj, hw⟩ := lf_V_84
  have e1 := hc.1
  exact ⟨_, tb_3, _, ty_3, cl_3, by decide, by
    obtain ⟨rfl, rfl, rfl⟩ : C = "DoorVoice$Street" ∧ T = tb_3 ∧ N = 16 := by
      have e2 := cl_3.1.symm.trans e1
      injection e2 with e2
      injection e2 with e3 e4
      injection e4 with e5 e6
      exact ⟨e3.symm, e5.symm, e6.symm⟩
    exact hw, rfl, rfl, fun h => by cases h⟩
theorem lp_V_87 : fp_ok "DoorVoice" 87 3 11 false (.int) := by
  obtain ⟨C, T, N, ty, hc, hj, hw⟩ := lf_V_87
  have e1 := hc.1
  exact ⟨_, tb_3, _, ty_3, cl_3, by decide, by
    obtain ⟨rfl, rfl, rfl⟩ : C = "DoorVoice$Street" ∧ T = tb_3 ∧ N = 16 := by
      have e2 := cl_3.1.symm.trans e1
      injection e2 with e2
      injection e2 with e3 e4
      injection e4 with e5 e6
      exact ⟨e3.symm, e5.symm, e6.symm⟩
    exact hw, rfl, rfl, fun h => by cases h⟩
theorem lp_V_102 : fp_ok "DoorVoice" 102 3 8 false (.int) := by
  obtain ⟨C, T, N, ty, hc, hj, hw⟩ := lf_V_102
  have e1 := hc.1
  exact ⟨_, tb_3, _, ty_3, cl_3, by decide, by
    obtain ⟨rfl, rfl, rfl⟩ : C = "DoorVoice$Street" ∧ T = tb_3 ∧ N = 16 := by
      have e2 := cl_3.1.symm.trans e1
      injection e2 with e2
      injection e2 with e3 e4
      injection e4 with e5 e6
      exact ⟨e3.symm, e5.symm, e6.symm⟩
    exact hw, rfl, rfl, fun h => by cases h⟩
theorem lp_V_170 : fp_ok "DoorVoice" 170 3 14 false (.int) := by
  obtain ⟨C, T, N, ty, hc, hj, hw⟩ := lf_V_170
  have e1 := hc.1
  exact ⟨_, tb_3, _, ty_3, cl_3, by decide, by
    obtain ⟨rfl, rfl, rfl⟩ : C = "DoorVoice$Street" ∧ T = tb_3 ∧ N = 16 := by
      have e2 := cl_3.1.symm.trans e1
      injection e2 with e2
      injection e2 with e3 e4
      injection e4 with e5 e6
      exact ⟨e3.symm, e5.symm, e6.symm⟩
    exact hw, rfl, rfl, fun h => by cases h⟩
theorem lp_V_173 : fp_ok "DoorVoice" 173 3 15 false (.int) := by
  obtain ⟨C, T, N, ty, hc, hj, hw⟩ := lf_V_173
  have e1 := hc.1
  exact ⟨_, tb_3, _, ty_3, cl_3, by decide, by
    obtain ⟨rfl, rfl, rfl⟩ : C = "DoorVoice$Street" ∧ T = tb_3 ∧ N = 16 := by
      have e2 := cl_3.1.symm.trans e1
      injection e2 with e2
      injection e2 with e3 e4
      injection e4 with e5 e6
      exact ⟨e3.symm, e5.symm, e6.symm⟩
    exact hw, rfl, rfl, fun h => by cases h⟩
theorem lp_V_167 : fp_ok "DoorVoice" 167 3 13 false (.int) := by
  obtain ⟨C, T, N, ty, hc, hj, hw⟩ := lf_V_167
  have e1 := hc.1
  exact ⟨_, tb_3, _, ty_3, cl_3, by decide, by
    obtain ⟨rfl, rfl, rfl⟩ : C = "DoorVoice$Street" ∧ T = tb_3 ∧ N = 16 := by
      have e2 := cl_3.1.symm.trans e1
      injection e2 with e2
      injection e2 with e3 e4
      injection e4 with e5 e6
      exact ⟨e3.symm, e5.symm, e6.symm⟩
    exact hw, rfl, rfl, fun h => by cases h⟩
theorem lp_M_7 : fp_ok "DoorVoiceModel" 7 5 0 true (.array .int) := by
  obtain ⟨C, T, N, ty, hc, hj, hw⟩ := lf_M_7
  have e1 := hc.1
  exact ⟨_, tb_5, _, ty_5, cl_5, by decide, by
    obtain ⟨rfl, rfl, rfl⟩ : C = "DoorVoiceModel" ∧ T = tb_5 ∧ N = 20 := by
      have e2 := cl_5.1.symm.trans e1
      injection e2 with e2
      injection e2 with e3 e4
      injection e4 with e5 e6
      exact ⟨e3.symm, e5.symm, e6.symm⟩
    exact hw, rfl, rfl, fun _ => rfl⟩
theorem lp_M_13 : fp_ok "DoorVoiceModel" 13 5 1 true (.array .int) := by
  obtain ⟨C, T, N, ty, hc, hj, hw⟩ := lf_M_13
  have e1 := hc.1
  exact ⟨_, tb_5, _, ty_5, cl_5, by decide, by
    obtain ⟨rfl, rfl, rfl⟩ : C = "DoorVoiceModel" ∧ T = tb_5 ∧ N = 20 := by
      have e2 := cl_5.1.symm.trans e1
      injection e2 with e2
      injection e2 with e3 e4
      injection e4 with e5 e6
      exact ⟨e3.symm, e5.symm, e6.symm⟩
    exact hw, rfl, rfl, fun _ => rfl⟩
theorem lp_M_16 : fp_ok "DoorVoiceModel" 16 5 3 true (.array .int) := by
  obtain ⟨C, T, N, ty, hc, hj, hw⟩ := lf_M_16
  have e1 := hc.1
  exact ⟨_, tb_5, _, ty_5, cl_5, by decide, by
    obtain ⟨rfl, rfl, rfl⟩ : C = "DoorVoiceModel" ∧ T = tb_5 ∧ N = 20 := by
      have e2 := cl_5.1.symm.trans e1
      injection e2 with e2
      injection e2 with e3 e4
      injection e4 with e5 e6
      exact ⟨e3.symm, e5.symm, e6.symm⟩
    exact hw, rfl, rfl, fun _ => rfl⟩
theorem lp_M_19 : fp_ok "DoorVoiceModel" 19 5 4 false (.int) := by
  obtain ⟨C, T, N, ty, hc, hj, hw⟩ := lf_M_19
  have e1 := hc.1
  exact ⟨_, tb_5, _, ty_5, cl_5, by decide, by
    obtain ⟨rfl, rfl, rfl⟩ : C = "DoorVoiceModel" ∧ T = tb_5 ∧ N = 20 := by
      have e2 := cl_5.1.symm.trans e1
      injection e2 with e2
      injection e2 with e3 e4
      injection e4 with e5 e6
      exact ⟨e3.symm, e5.symm, e6.symm⟩
    exact hw, rfl, rfl, fun h => by cases h⟩
theorem lp_M_23 : fp_ok "DoorVoiceModel" 23 5 6 true (.array .int) := by
  obtain ⟨C, T, N, ty, hc, hj, hw⟩ := lf_M_23
  have e1 := hc.1
  exact ⟨_, tb_5, _, ty_5, cl_5, by decide, by
    obtain ⟨rfl, rfl, rfl⟩ : C = "DoorVoiceModel" ∧ T = tb_5 ∧ N = 20 := by
      have e2 := cl_5.1.symm.trans e1
      injection e2 with e2
      injection e2 with e3 e4
      injection e4 with e5 e6
      exact ⟨e3.symm, e5.symm, e6.symm⟩
    exact hw, rfl, rfl, fun _ => rfl⟩
theorem lp_M_26 : fp_ok "DoorVoiceModel" 26 5 8 true (.array .int) := by
  obtain ⟨C, T, N, ty, hc, hj, hw⟩ := lf_M_26
  have e1 := hc.1
  exact ⟨_, tb_5, _, ty_5, cl_5, by decide, by
    obtain ⟨rfl, rfl, rfl⟩ : C = "DoorVoiceModel" ∧ T = tb_5 ∧ N = 20 := by
      have e2 := cl_5.1.symm.trans e1
      injection e2 with e2
      injection e2 with e3 e4
      injection e4 with e5 e6
      exact ⟨e3.symm, e5.symm, e6.symm⟩
    exact hw, rfl, rfl, fun _ => rfl⟩
theorem lp_M_29 : fp_ok "DoorVoiceModel" 29 5 10 true (.array .int) := by
  obtain ⟨C, T, N, ty, hc, hj, hw⟩ := lf_M_29
  have e1 := hc.1
  exact ⟨_, tb_5, _, ty_5, cl_5, by decide, by
    obtain ⟨rfl, rfl, rfl⟩ : C = "DoorVoiceModel" ∧ T = tb_5 ∧ N = 20 := by
      have e2 := cl_5.1.symm.trans e1
      injection e2 with e2
      injection e2 with e3 e4
      injection e4 with e5 e6
      exact ⟨e3.symm, e5.symm, e6.symm⟩
    exact hw, rfl, rfl, fun _ => rfl⟩
theorem lp_M_32 : fp_ok "DoorVoiceModel" 32 5 11 true (.array .int) := by
  obtain ⟨C, T, N, ty, hc, hj, hw⟩ := lf_M_32
  have e1 := hc.1
  exact ⟨_, tb_5, _, ty_5, cl_5, by decide, by
    obtain ⟨rfl, rfl, rfl⟩ : C = "DoorVoiceModel" ∧ T = tb_5 ∧ N = 20 := by
      have e2 := cl_5.1.symm.trans e1
      injection e2 with e2
      injection e2 with e3 e4
      injection e4 with e5 e6
      exact ⟨e3.symm, e5.symm, e6.symm⟩
    exact hw, rfl, rfl, fun _ => rfl⟩
theorem lp_M_35 : fp_ok "DoorVoiceModel" 35 5 16 true (.array .int) := by
  obtain ⟨C, T, N, ty, hc, hj, hw⟩ := lf_M_35
  have e1 := hc.1
  exact ⟨_, tb_5, _, ty_5, cl_5, by decide, by
    obtain ⟨rfl, rfl, rfl⟩ : C = "DoorVoiceModel" ∧ T = tb_5 ∧ N = 20 := by
      have e2 := cl_5.1.symm.trans e1
      injection e2 with e2
      injection e2 with e3 e4
      injection e4 with e5 e6
      exact ⟨e3.symm, e5.symm, e6.symm⟩
    exact hw, rfl, rfl, fun _ => rfl⟩
theorem lp_M_38 : fp_ok "DoorVoiceModel" 38 5 17 true (.array .long) := by
  obtain ⟨C, T, N, ty, hc, hj, hw⟩ := lf_M_38
  have e1 := hc.1
  exact ⟨_, tb_5, _, ty_5, cl_5, by decide, by
    obtain ⟨rfl, rfl, rfl⟩ : C = "DoorVoiceModel" ∧ T = tb_5 ∧ N = 20 := by
      have e2 := cl_5.1.symm.trans e1
      injection e2 with e2
      injection e2 with e3 e4
      injection e4 with e5 e6
      exact ⟨e3.symm, e5.symm, e6.symm⟩
    exact hw, rfl, rfl, fun _ => rfl⟩
theorem lp_M_42 : fp_ok "DoorVoiceModel" 42 5 18 true (.array .int) := by
  obtain ⟨C, T, N, ty, hc, hj, hw⟩ := lf_M_42
  have e1 := hc.1
  exact ⟨_, tb_5, _, ty_5, cl_5, by decide, by
    obtain ⟨rfl, rfl, rfl⟩ : C = "DoorVoiceModel" ∧ T = tb_5 ∧ N = 20 := by
      have e2 := cl_5.1.symm.trans e1
      injection e2 with e2
      injection e2 with e3 e4
      injection e4 with e5 e6
      exact ⟨e3.symm, e5.symm, e6.symm⟩
    exact hw, rfl, rfl, fun _ => rfl⟩
theorem lp_M_45 : fp_ok "DoorVoiceModel" 45 5 19 true (.array .boolean) := by
  obtain ⟨C, T, N, ty, hc, hj, hw⟩ := lf_M_45
  have e1 := hc.1
  exact ⟨_, tb_5, _, ty_5, cl_5, by decide, by
    obtain ⟨rfl, rfl, rfl⟩ : C = "DoorVoiceModel" ∧ T = tb_5 ∧ N = 20 := by
      have e2 := cl_5.1.symm.trans e1
      injection e2 with e2
      injection e2 with e3 e4
      injection e4 with e5 e6
      exact ⟨e3.symm, e5.symm, e6.symm⟩
    exact hw, rfl, rfl, fun _ => rfl⟩
theorem lp_M_49 : fp_ok "DoorVoiceModel" 49 5 2 false (.int) := by
  obtain ⟨C, T, N, ty, hc, hj, hw⟩ := lf_M_49
  have e1 := hc.1
  exact ⟨_, tb_5, _, ty_5, cl_5, by decide, by
    obtain ⟨rfl, rfl, rfl⟩ : C = "DoorVoiceModel" ∧ T = tb_5 ∧ N = 20 := by
      have e2 := cl_5.1.symm.trans e1
      injection e2 with e2
      injection e2 with e3 e4
      injection e4 with e5 e6
      exact ⟨e3.symm, e5.symm, e6.symm⟩
    exact hw, rfl, rfl, fun h => by cases h⟩
theorem lp_M_60 : fp_ok "DoorVoiceModel" 60 5 5 false (.int) := by
  obtain ⟨C, T, N, ty, hc, hj, hw⟩ := lf_M_60
  have e1 := hc.1
  exact ⟨_, tb_5, _, ty_5, cl_5, by decide, by
    obtain ⟨rfl, rfl, rfl⟩ : C = "DoorVoiceModel" ∧ T = tb_5 ∧ N = 20 := by
      have e2 := cl_5.1.symm.trans e1
      injection e2 with e2
      injection e2 with e3 e4
      injection e4 with e5 e6
      exact ⟨e3.symm, e5.symm, e6.symm⟩
    exact hw, rfl, rfl, fun h => by cases h⟩
theorem lp_M_63 : fp_ok "DoorVoiceModel" 63 5 9 false (.int) := by
  obtain ⟨C, T, N, ty, hc, hj, hw⟩ := lf_M_63
  have e1 := hc.1
  exact ⟨_, tb_5, _, ty_5, cl_5, by decide, by
    obtain ⟨rfl, rfl, rfl⟩ : C = "DoorVoiceModel" ∧ T = tb_5 ∧ N = 20 := by
      have e2 := cl_5.1.symm.trans e1
      injection e2 with e2
      injection e2 with e3 e4
      injection e4 with e5 e6
      exact ⟨e3.symm, e5.symm, e6.symm⟩
    exact hw, rfl, rfl, fun h => by cases h⟩
theorem lp_M_84 : fp_ok "DoorVoiceModel" 84 5 12 false (.boolean) := by
  obtain ⟨C, T, N, ty, hc, hj, hw⟩ := lf_M_84
  have e1 := hc.1
  exact ⟨_, tb_5, _, ty_5, cl_5, by decide, by
    obtain ⟨rfl, rfl, rfl⟩ : C = "DoorVoiceModel" ∧ T = tb_5 ∧ N = 20 := by
      have e2 := cl_5.1.symm.trans e1
      injection e2 with e2
      injection e2 with e3 e4
      injection e4 with e5 e6
      exact ⟨e3.symm, e5.symm, e6.symm⟩
    exact hw, rfl, rfl, fun h => by cases h⟩
theorem lp_M_91 : fp_ok "DoorVoiceModel" 91 5 14 false (.int) := by
  obtain ⟨C, T, N, ty, hc, hj, hw⟩ := lf_M_91
  have e1 := hc.1
  exact ⟨_, tb_5, _, ty_5, cl_5, by decide, by
    obtain ⟨rfl, rfl, rfl⟩ : C = "DoorVoiceModel" ∧ T = tb_5 ∧ N = 20 := by
      have e2 := cl_5.1.symm.trans e1
      injection e2 with e2
      injection e2 with e3 e4
      injection e4 with e5 e6
      exact ⟨e3.symm, e5.symm, e6.symm⟩
    exact hw, rfl, rfl, fun h => by cases h⟩
theorem lp_M_94 : fp_ok "DoorVoiceModel" 94 5 15 false (.int) := by
  obtain ⟨C, T, N, ty, hc, hj, hw⟩ := lf_M_94
  have e1 := hc.1
  exact ⟨_, tb_5, _, ty_5, cl_5, by decide, by
    obtain ⟨rfl, rfl, rfl⟩ : C = "DoorVoiceModel" ∧ T = tb_5 ∧ N = 20 := by
      have e2 := cl_5.1.symm.trans e1
      injection e2 with e2
      injection e2 with e3 e4
      injection e4 with e5 e6
      exact ⟨e3.symm, e5.symm, e6.symm⟩
    exact hw, rfl, rfl, fun h => by cases h⟩
theorem lp_M_97 : fp_ok "DoorVoiceModel" 97 5 13 false (.int) := by
  obtain ⟨C, T, N, ty, hc, hj, hw⟩ := lf_M_97
  have e1 := hc.1
  exact ⟨_, tb_5, _, ty_5, cl_5, by decide, by
    obtain ⟨rfl, rfl, rfl⟩ : C = "DoorVoiceModel" ∧ T = tb_5 ∧ N = 20 := by
      have e2 := cl_5.1.symm.trans e1
      injection e2 with e2
      injection e2 with e3 e4
      injection e4 with e5 e6
      exact ⟨e3.symm, e5.symm, e6.symm⟩
    exact hw, rfl, rfl, fun h => by cases h⟩
theorem lp_M_126 : fp_ok "DoorVoiceModel" 126 5 7 false (.int) := by
  obtain ⟨C, T, N, ty, hc, hj, hw⟩ := lf_M_126
  have e1 := hc.1
  exact ⟨_, tb_5, _, ty_5, cl_5, by decide, by
    obtain ⟨rfl, rfl, rfl⟩ : C = "DoorVoiceModel" ∧ T = tb_5 ∧ N = 20 := by
      have e2 := cl_5.1.symm.trans e1
      injection e2 with e2
      injection e2 with e3 e4
      injection e4 with e5 e6
      exact ⟨e3.symm, e5.symm, e6.symm⟩
    exact hw, rfl, rfl, fun h => by cases h⟩
theorem lp_C_9 : fp_ok "DoorVoice$Chances" 9 0 0 true (.array .long) := by
  obtain ⟨C, T, N, ty, hc, hj, hw⟩ := lf_C_9
  have e1 := hc.1
  exact ⟨_, tb_0, _, ty_0, cl_0, by decide, by
    obtain ⟨rfl, rfl, rfl⟩ : C = "DoorVoice$Chances" ∧ T = tb_0 ∧ N = 5 := by
      have e2 := cl_0.1.symm.trans e1
      injection e2 with e2
      injection e2 with e3 e4
      injection e4 with e5 e6
      exact ⟨e3.symm, e5.symm, e6.symm⟩
    exact hw, rfl, rfl, fun _ => rfl⟩
theorem lp_C_15 : fp_ok "DoorVoice$Chances" 15 0 1 false (.int) := by
  obtain ⟨C, T, N, ty, hc, hj, hw⟩ := lf_C_15
  have e1 := hc.1
  exact ⟨_, tb_0, _, ty_0, cl_0, by decide, by
    obtain ⟨rfl, rfl, rfl⟩ : C = "DoorVoice$Chances" ∧ T = tb_0 ∧ N = 5 := by
      have e2 := cl_0.1.symm.trans e1
      injection e2 with e2
      injection e2 with e3 e4
      injection e4 with e5 e6
      exact ⟨e3.symm, e5.symm, e6.symm⟩
    exact hw, rfl, rfl, fun h => by cases h⟩
theorem lp_C_19 : fp_ok "DoorVoice$Chances" 19 0 2 false (.int) := by
  obtain ⟨C, T, N, ty, hc, hj, hw⟩ := lf_C_19
  have e1 := hc.1
  exact ⟨_, tb_0, _, ty_0, cl_0, by decide, by
    obtain ⟨rfl, rfl, rfl⟩ : C = "DoorVoice$Chances" ∧ T = tb_0 ∧ N = 5 := by
      have e2 := cl_0.1.symm.trans e1
      injection e2 with e2
      injection e2 with e3 e4
      injection e4 with e5 e6
      exact ⟨e3.symm, e5.symm, e6.symm⟩
    exact hw, rfl, rfl, fun h => by cases h⟩
theorem lp_C_22 : fp_ok "DoorVoice$Chances" 22 0 3 false (.long) := by
  obtain ⟨C, T, N, ty, hc, hj, hw⟩ := lf_C_22
  have e1 := hc.1
  exact ⟨_, tb_0, _, ty_0, cl_0, by decide, by
    obtain ⟨rfl, rfl, rfl⟩ : C = "DoorVoice$Chances" ∧ T = tb_0 ∧ N = 5 := by
      have e2 := cl_0.1.symm.trans e1
      injection e2 with e2
      injection e2 with e3 e4
      injection e4 with e5 e6
      exact ⟨e3.symm, e5.symm, e6.symm⟩
    exact hw, rfl, rfl, fun h => by cases h⟩
theorem lp_C_26 : fp_ok "DoorVoice$Chances" 26 0 4 false (.long) := by
  obtain ⟨C, T, N, ty, hc, hj, hw⟩ := lf_C_26
  have e1 := hc.1
  exact ⟨_, tb_0, _, ty_0, cl_0, by decide, by
    obtain ⟨rfl, rfl, rfl⟩ : C = "DoorVoice$Chances" ∧ T = tb_0 ∧ N = 5 := by
      have e2 := cl_0.1.symm.trans e1
      injection e2 with e2
      injection e2 with e3 e4
      injection e4 with e5 e6
      exact ⟨e3.symm, e5.symm, e6.symm⟩
    exact hw, rfl, rfl, fun h => by cases h⟩
theorem lp_L_9 : fp_ok "DoorVoice$Listener" 9 1 0 true (.array .int) := by
  obtain ⟨C, T, N, ty, hc, hj, hw⟩ := lf_L_9
  have e1 := hc.1
  exact ⟨_, tb_1, _, ty_1, cl_1, by decide, by
    obtain ⟨rfl, rfl, rfl⟩ : C = "DoorVoice$Listener" ∧ T = tb_1 ∧ N = 2 := by
      have e2 := cl_1.1.symm.trans e1
      injection e2 with e2
      injection e2 with e3 e4
      injection e4 with e5 e6
      exact ⟨e3.symm, e5.symm, e6.symm⟩
    exact hw, rfl, rfl, fun _ => rfl⟩
theorem lp_L_15 : fp_ok "DoorVoice$Listener" 15 1 1 true (.array .int) := by
  obtain ⟨C, T, N, ty, hc, hj, hw⟩ := lf_L_15
  have e1 := hc.1
  exact ⟨_, tb_1, _, ty_1, cl_1, by decide, by
    obtain ⟨rfl, rfl, rfl⟩ : C = "DoorVoice$Listener" ∧ T = tb_1 ∧ N = 2 := by
      have e2 := cl_1.1.symm.trans e1
      injection e2 with e2
      injection e2 with e3 e4
      injection e4 with e5 e6
      exact ⟨e3.symm, e5.symm, e6.symm⟩
    exact hw, rfl, rfl, fun _ => rfl⟩
theorem lp_P_9 : fp_ok "DoorVoice$Pad" 9 2 0 true (.array .int) := by
  obtain ⟨C, T, N, ty, hc, hj, hw⟩ := lf_P_9
  have e1 := hc.1
  exact ⟨_, tb_2, _, ty_2, cl_2, by decide, by
    obtain ⟨rfl, rfl, rfl⟩ : C = "DoorVoice$Pad" ∧ T = tb_2 ∧ N = 6 := by
      have e2 := cl_2.1.symm.trans e1
      injection e2 with e2
      injection e2 with e3 e4
      injection e4 with e5 e6
      exact ⟨e3.symm, e5.symm, e6.symm⟩
    exact hw, rfl, rfl, fun _ => rfl⟩
theorem lp_P_15 : fp_ok "DoorVoice$Pad" 15 2 1 false (.int) := by
  obtain ⟨C, T, N, ty, hc, hj, hw⟩ := lf_P_15
  have e1 := hc.1
  exact ⟨_, tb_2, _, ty_2, cl_2, by decide, by
    obtain ⟨rfl, rfl, rfl⟩ : C = "DoorVoice$Pad" ∧ T = tb_2 ∧ N = 6 := by
      have e2 := cl_2.1.symm.trans e1
      injection e2 with e2
      injection e2 with e3 e4
      injection e4 with e5 e6
      exact ⟨e3.symm, e5.symm, e6.symm⟩
    exact hw, rfl, rfl, fun h => by cases h⟩
theorem lp_P_19 : fp_ok "DoorVoice$Pad" 19 2 2 false (.int) := by
  obtain ⟨C, T, N, ty, hc, hj, hw⟩ := lf_P_19
  have e1 := hc.1
  exact ⟨_, tb_2, _, ty_2, cl_2, by decide, by
    obtain ⟨rfl, rfl, rfl⟩ : C = "DoorVoice$Pad" ∧ T = tb_2 ∧ N = 6 := by
      have e2 := cl_2.1.symm.trans e1
      injection e2 with e2
      injection e2 with e3 e4
      injection e4 with e5 e6
      exact ⟨e3.symm, e5.symm, e6.symm⟩
    exact hw, rfl, rfl, fun h => by cases h⟩
theorem lp_P_22 : fp_ok "DoorVoice$Pad" 22 2 3 false (.int) := by
  obtain ⟨C, T, N, ty, hc, hj, hw⟩ := lf_P_22
  have e1 := hc.1
  exact ⟨_, tb_2, _, ty_2, cl_2, by decide, by
    obtain ⟨rfl, rfl, rfl⟩ : C = "DoorVoice$Pad" ∧ T = tb_2 ∧ N = 6 := by
      have e2 := cl_2.1.symm.trans e1
      injection e2 with e2
      injection e2 with e3 e4
      injection e4 with e5 e6
      exact ⟨e3.symm, e5.symm, e6.symm⟩
    exact hw, rfl, rfl, fun h => by cases h⟩
theorem lp_P_25 : fp_ok "DoorVoice$Pad" 25 2 4 false (.int) := by
  obtain ⟨C, T, N, ty, hc, hj, hw⟩ := lf_P_25
  have e1 := hc.1
  exact ⟨_, tb_2, _, ty_2, cl_2, by decide, by
    obtain ⟨rfl, rfl, rfl⟩ : C = "DoorVoice$Pad" ∧ T = tb_2 ∧ N = 6 := by
      have e2 := cl_2.1.symm.trans e1
      injection e2 with e2
      injection e2 with e3 e4
      injection e4 with e5 e6
      exact ⟨e3.symm, e5.symm, e6.symm⟩
    exact hw, rfl, rfl, fun h => by cases h⟩
theorem lp_P_28 : fp_ok "DoorVoice$Pad" 28 2 5 false (.int) := by
  obtain ⟨C, T, N, ty, hc, hj, hw⟩ := lf_P_28
  have e1 := hc.1
  exact ⟨_, tb_2, _, ty_2, cl_2, by decide, by
    obtain ⟨rfl, rfl, rfl⟩ : C = "DoorVoice$Pad" ∧ T = tb_2 ∧ N = 6 := by
      have e2 := cl_2.1.symm.trans e1
      injection e2 with e2
      injection e2 with e3 e4
      injection e4 with e5 e6
      exact ⟨e3.symm, e5.symm, e6.symm⟩
    exact hw, rfl, rfl, fun h => by cases h⟩
theorem lp_S_9 : fp_ok "DoorVoice$Street" 9 3 0 true (.array .int) := by
  obtain ⟨C, T, N, ty, hc, hj, hw⟩ := lf_S_9
  have e1 := hc.1
  exact ⟨_, tb_3, _, ty_3, cl_3, by decide, by
    obtain ⟨rfl, rfl, rfl⟩ : C = "DoorVoice$Street" ∧ T = tb_3 ∧ N = 16 := by
      have e2 := cl_3.1.symm.trans e1
      injection e2 with e2
      injection e2 with e3 e4
      injection e4 with e5 e6
      exact ⟨e3.symm, e5.symm, e6.symm⟩
    exact hw, rfl, rfl, fun _ => rfl⟩
theorem lp_S_15 : fp_ok "DoorVoice$Street" 15 3 1 true (.array .int) := by
  obtain ⟨C, T, N, ty, hc, hj, hw⟩ := lf_S_15
  have e1 := hc.1
  exact ⟨_, tb_3, _, ty_3, cl_3, by decide, by
    obtain ⟨rfl, rfl, rfl⟩ : C = "DoorVoice$Street" ∧ T = tb_3 ∧ N = 16 := by
      have e2 := cl_3.1.symm.trans e1
      injection e2 with e2
      injection e2 with e3 e4
      injection e4 with e5 e6
      exact ⟨e3.symm, e5.symm, e6.symm⟩
    exact hw, rfl, rfl, fun _ => rfl⟩
theorem lp_S_18 : fp_ok "DoorVoice$Street" 18 3 2 true (.array .int) := by
  obtain ⟨C, T, N, ty, hc, hj, hw⟩ := lf_S_18
  have e1 := hc.1
  exact ⟨_, tb_3, _, ty_3, cl_3, by decide, by
    obtain ⟨rfl, rfl, rfl⟩ : C = "DoorVoice$Street" ∧ T = tb_3 ∧ N = 16 := by
      have e2 := cl_3.1.symm.trans e1
      injection e2 with e2
      injection e2 with e3 e4
      injection e4 with e5 e6
      exact ⟨e3.symm, e5.symm, e6.symm⟩
    exact hw, rfl, rfl, fun _ => rfl⟩
theorem lp_S_21 : fp_ok "DoorVoice$Street" 21 3 3 true (.array .int) := by
  obtain ⟨C, T, N, ty, hc, hj, hw⟩ := lf_S_21
  have e1 := hc.1
  exact ⟨_, tb_3, _, ty_3, cl_3, by decide, by
    obtain ⟨rfl, rfl, rfl⟩ : C = "DoorVoice$Street" ∧ T = tb_3 ∧ N = 16 := by
      have e2 := cl_3.1.symm.trans e1
      injection e2 with e2
      injection e2 with e3 e4
      injection e4 with e5 e6
      exact ⟨e3.symm, e5.symm, e6.symm⟩
    exact hw, rfl, rfl, fun _ => rfl⟩
theorem lp_S_24 : fp_ok "DoorVoice$Street" 24 3 4 true (.array .int) := by
  obtain ⟨C, T, N, ty, hc, hj, hw⟩ := lf_S_24
  have e1 := hc.1
  exact ⟨_, tb_3, _, ty_3, cl_3, by decide, by
    obtain ⟨rfl, rfl, rfl⟩ : C = "DoorVoice$Street" ∧ T = tb_3 ∧ N = 16 := by
      have e2 := cl_3.1.symm.trans e1
      injection e2 with e2
      injection e2 with e3 e4
      injection e4 with e5 e6
      exact ⟨e3.symm, e5.symm, e6.symm⟩
    exact hw, rfl, rfl, fun _ => rfl⟩
theorem lp_S_27 : fp_ok "DoorVoice$Street" 27 3 5 true (.array .int) := by
  obtain ⟨C, T, N, ty, hc, hj, hw⟩ := lf_S_27
  have e1 := hc.1
  exact ⟨_, tb_3, _, ty_3, cl_3, by decide, by
    obtain ⟨rfl, rfl, rfl⟩ : C = "DoorVoice$Street" ∧ T = tb_3 ∧ N = 16 := by
      have e2 := cl_3.1.symm.trans e1
      injection e2 with e2
      injection e2 with e3 e4
      injection e4 with e5 e6
      exact ⟨e3.symm, e5.symm, e6.symm⟩
    exact hw, rfl, rfl, fun _ => rfl⟩
theorem lp_S_30 : fp_ok "DoorVoice$Street" 30 3 6 false (.int) := by
  obtain ⟨C, T, N, ty, hc, hj, hw⟩ := lf_S_30
  have e1 := hc.1
  exact ⟨_, tb_3, _, ty_3, cl_3, by decide, by
    obtain ⟨rfl, rfl, rfl⟩ : C = "DoorVoice$Street" ∧ T = tb_3 ∧ N = 16 := by
      have e2 := cl_3.1.symm.trans e1
      injection e2 with e2
      injection e2 with e3 e4
      injection e4 with e5 e6
      exact ⟨e3.symm, e5.symm, e6.symm⟩
    exact hw, rfl, rfl, fun h => by cases h⟩
theorem lp_S_34 : fp_ok "DoorVoice$Street" 34 3 7 false (.int) := by
  obtain ⟨C, T, N, ty, hc, hj, hw⟩ := lf_S_34
  have e1 := hc.1
  exact ⟨_, tb_3, _, ty_3, cl_3, by decide, by
    obtain ⟨rfl, rfl, rfl⟩ : C = "DoorVoice$Street" ∧ T = tb_3 ∧ N = 16 := by
      have e2 := cl_3.1.symm.trans e1
      injection e2 with e2
      injection e2 with e3 e4
      injection e4 with e5 e6
      exact ⟨e3.symm, e5.symm, e6.symm⟩
    exact hw, rfl, rfl, fun h => by cases h⟩
theorem lp_S_37 : fp_ok "DoorVoice$Street" 37 3 8 false (.int) := by
  obtain ⟨C, T, N, ty, hc, hj, hw⟩ := lf_S_37
  have e1 := hc.1
  exact ⟨_, tb_3, _, ty_3, cl_3, by decide, by
    obtain ⟨rfl, rfl, rfl⟩ : C = "DoorVoice$Street" ∧ T = tb_3 ∧ N = 16 := by
      have e2 := cl_3.1.symm.trans e1
      injection e2 with e2
      injection e2 with e3 e4
      injection e4 with e5 e6
      exact ⟨e3.symm, e5.symm, e6.symm⟩
    exact hw, rfl, rfl, fun h => by cases h⟩
theorem lp_S_40 : fp_ok "DoorVoice$Street" 40 3 9 false (.int) := by
  obtain ⟨C, T, N, ty, hc, hj, hw⟩ := lf_S_40
  have e1 := hc.1
  exact ⟨_, tb_3, _, ty_3, cl_3, by decide, by
    obtain ⟨rfl, rfl, rfl⟩ : C = "DoorVoice$Street" ∧ T = tb_3 ∧ N = 16 := by
      have e2 := cl_3.1.symm.trans e1
      injection e2 with e2
      injection e2 with e3 e4
      injection e4 with e5 e6
      exact ⟨e3.symm, e5.symm, e6.symm⟩
    exact hw, rfl, rfl, fun h => by cases h⟩
theorem lp_S_43 : fp_ok "DoorVoice$Street" 43 3 10 false (.int) := by
  obtain ⟨C, T, N, ty, hc, hj, hw⟩ := lf_S_43
  have e1 := hc.1
  exact ⟨_, tb_3, _, ty_3, cl_3, by decide, by
    obtain ⟨rfl, rfl, rfl⟩ : C = "DoorVoice$Street" ∧ T = tb_3 ∧ N = 16 := by
      have e2 := cl_3.1.symm.trans e1
      injection e2 with e2
      injection e2 with e3 e4
      injection e4 with e5 e6
      exact ⟨e3.symm, e5.symm, e6.symm⟩
    exact hw, rfl, rfl, fun h => by cases h⟩
theorem lp_S_46 : fp_ok "DoorVoice$Street" 46 3 11 false (.int) := by
  obtain ⟨C, T, N, ty, hc, hj, hw⟩ := lf_S_46
  have e1 := hc.1
  exact ⟨_, tb_3, _, ty_3, cl_3, by decide, by
    obtain ⟨rfl, rfl, rfl⟩ : C = "DoorVoice$Street" ∧ T = tb_3 ∧ N = 16 := by
      have e2 := cl_3.1.symm.trans e1
      injection e2 with e2
      injection e2 with e3 e4
      injection e4 with e5 e6
      exact ⟨e3.symm, e5.symm, e6.symm⟩
    exact hw, rfl, rfl, fun h => by cases h⟩
theorem lp_S_49 : fp_ok "DoorVoice$Street" 49 3 12 false (.int) := by
  obtain ⟨C, T, N, ty, hc, hj, hw⟩ := lf_S_49
  have e1 := hc.1
  exact ⟨_, tb_3, _, ty_3, cl_3, by decide, by
    obtain ⟨rfl, rfl, rfl⟩ : C = "DoorVoice$Street" ∧ T = tb_3 ∧ N = 16 := by
      have e2 := cl_3.1.symm.trans e1
      injection e2 with e2
      injection e2 with e3 e4
      injection e4 with e5 e6
      exact ⟨e3.symm, e5.symm, e6.symm⟩
    exact hw, rfl, rfl, fun h => by cases h⟩
theorem lp_S_52 : fp_ok "DoorVoice$Street" 52 3 13 false (.int) := by
  obtain ⟨C, T, N, ty, hc, hj, hw⟩ := lf_S_52
  have e1 := hc.1
  exact ⟨_, tb_3, _, ty_3, cl_3, by decide, by
    obtain ⟨rfl, rfl, rfl⟩ : C = "DoorVoice$Street" ∧ T = tb_3 ∧ N = 16 := by
      have e2 := cl_3.1.symm.trans e1
      injection e2 with e2
      injection e2 with e3 e4
      injection e4 with e5 e6
      exact ⟨e3.symm, e5.symm, e6.symm⟩
    exact hw, rfl, rfl, fun h => by cases h⟩
theorem lp_S_55 : fp_ok "DoorVoice$Street" 55 3 14 false (.int) := by
  obtain ⟨C, T, N, ty, hc, hj, hw⟩ := lf_S_55
  have e1 := hc.1
  exact ⟨_, tb_3, _, ty_3, cl_3, by decide, by
    obtain ⟨rfl, rfl, rfl⟩ : C = "DoorVoice$Street" ∧ T = tb_3 ∧ N = 16 := by
      have e2 := cl_3.1.symm.trans e1
      injection e2 with e2
      injection e2 with e3 e4
      injection e4 with e5 e6
      exact ⟨e3.symm, e5.symm, e6.symm⟩
    exact hw, rfl, rfl, fun h => by cases h⟩
theorem lp_S_58 : fp_ok "DoorVoice$Street" 58 3 15 false (.int) := by
  obtain ⟨C, T, N, ty, hc, hj, hw⟩ := lf_S_58
  have e1 := hc.1
  exact ⟨_, tb_3, _, ty_3, cl_3, by decide, by
    obtain ⟨rfl, rfl, rfl⟩ : C = "DoorVoice$Street" ∧ T = tb_3 ∧ N = 16 := by
      have e2 := cl_3.1.symm.trans e1
      injection e2 with e2
      injection e2 with e3 e4
      injection e4 with e5 e6
      exact ⟨e3.symm, e5.symm, e6.symm⟩
    exact hw, rfl, rfl, fun h => by cases h⟩
/-- the world: all cells that the law makes, by what the arrays (A, J) and the fields (I, U) hold -/
def HH (A : Nat → List Int32) (I : Nat → Nat → Int32) (J : Nat → List Int64) (U : Nat → Nat → Int64) : ax_H := [
  ob 4 [.ref 1, .ref 8, .ref 15, .ref 22, .ref 29, .ref 31, .ref 34, .int (I 0 7)],
  ob 3 [.ref 2, .ref 3, .ref 4, .ref 5, .ref 6, .ref 7, .int (I 1 6), .int (I 1 7), .int (I 1 8), .int (I 1 9), .int (I 1 10), .int (I 1 11), .int (I 1 12), .int (I 1 13), .int (I 1 14), .int (I 1 15)],
  ia (A 2),
  ia (A 3),
  ia (A 4),
  ia (A 5),
  ia (A 6),
  ia (A 7),
  ob 3 [.ref 9, .ref 10, .ref 11, .ref 12, .ref 13, .ref 14, .int (I 8 6), .int (I 8 7), .int (I 8 8), .int (I 8 9), .int (I 8 10), .int (I 8 11), .int (I 8 12), .int (I 8 13), .int (I 8 14), .int (I 8 15)],
  ia (A 9),
  ia (A 10),
  ia (A 11),
  ia (A 12),
  ia (A 13),
  ia (A 14),
  ob 3 [.ref 16, .ref 17, .ref 18, .ref 19, .ref 20, .ref 21, .int (I 15 6), .int (I 15 7), .int (I 15 8), .int (I 15 9), .int (I 15 10), .int (I 15 11), .int (I 15 12), .int (I 15 13), .int (I 15 14), .int (I 15 15)],
  ia (A 16),
  ia (A 17),
  ia (A 18),
  ia (A 19),
  ia (A 20),
  ia (A 21),
  ob 3 [.ref 23, .ref 24, .ref 25, .ref 26, .ref 27, .ref 28, .int (I 22 6), .int (I 22 7), .int (I 22 8), .int (I 22 9), .int (I 22 10), .int (I 22 11), .int (I 22 12), .int (I 22 13), .int (I 22 14), .int (I 22 15)],
  ia (A 23),
  ia (A 24),
  ia (A 25),
  ia (A 26),
  ia (A 27),
  ia (A 28),
  ob 2 [.ref 30, .int (I 29 1), .int (I 29 2), .int (I 29 3), .int (I 29 4), .int (I 29 5)],
  ia (A 30),
  ob 1 [.ref 32, .ref 33],
  ia (A 32),
  ia (A 33),
  ob 0 [.ref 35, .int (I 34 1), .int (I 34 2), .long (U 34 3), .long (U 34 4)],
  ja (J 35),
  ob 5 [.ref 37, .ref 38, .int (I 36 2), .ref 39, .int (I 36 4), .int (I 36 5), .ref 40, .int (I 36 7), .ref 41, .int (I 36 9), .ref 42, .ref 43, .int (I 36 12), .int (I 36 13), .int (I 36 14), .int (I 36 15), .ref 44, .ref 45, .ref 46, .ref 47],
  ia (A 37),
  ia (A 38),
  ia (A 39),
  ia (A 40),
  ia (A 41),
  ia (A 42),
  ia (A 43),
  ia (A 44),
  ja (J 45),
  ia (A 46),
  za (A 47)]
def u1 {α : Type} (f : Nat → α) (k : Nat) (v : α) : Nat → α := fun a => if a = k then v else f a
def u2 {α : Type} (f : Nat → Nat → α) (k j : Nat) (v : α) : Nat → Nat → α := fun a b => if a = k then (if b = j then v else f a b) else f a b
section WORLD
variable {A : Nat → List Int32} {I : Nat → Nat → Int32} {J : Nat → List Int64} {U : Nat → Nat → Int64}
theorem hg_0 : (HH A I J U)[0]? = some (ob 4 [.ref 1, .ref 8, .ref 15, .ref 22, .ref 29, .ref 31, .ref 34, .int (I 0 7)]) := rfl
theorem hg_1 : (HH A I J U)[1]? = some (ob 3 [.ref 2, .ref 3, .ref 4, .ref 5, .ref 6, .ref 7, .int (I 1 6), .int (I 1 7), .int (I 1 8), .int (I 1 9), .int (I 1 10), .int (I 1 11), .int (I 1 12), .int (I 1 13), .int (I 1 14), .int (I 1 15)]) := rfl
theorem hg_2 : (HH A I J U)[2]? = some (ia (A 2)) := rfl
theorem hg_3 : (HH A I J U)[3]? = some (ia (A 3)) := rfl
theorem hg_4 : (HH A I J U)[4]? = some (ia (A 4)) := rfl
theorem hg_5 : (HH A I J U)[5]? = some (ia (A 5)) := rfl
theorem hg_6 : (HH A I J U)[6]? = some (ia (A 6)) := rfl
theorem hg_7 : (HH A I J U)[7]? = some (ia (A 7)) := rfl
theorem hg_8 : (HH A I J U)[8]? = some (ob 3 [.ref 9, .ref 10, .ref 11, .ref 12, .ref 13, .ref 14, .int (I 8 6), .int (I 8 7), .int (I 8 8), .int (I 8 9), .int (I 8 10), .int (I 8 11), .int (I 8 12), .int (I 8 13), .int (I 8 14), .int (I 8 15)]) := rfl
theorem hg_9 : (HH A I J U)[9]? = some (ia (A 9)) := rfl
theorem hg_10 : (HH A I J U)[10]? = some (ia (A 10)) := rfl
theorem hg_11 : (HH A I J U)[11]? = some (ia (A 11)) := rfl
theorem hg_12 : (HH A I J U)[12]? = some (ia (A 12)) := rfl
theorem hg_13 : (HH A I J U)[13]? = some (ia (A 13)) := rfl
theorem hg_14 : (HH A I J U)[14]? = some (ia (A 14)) := rfl
theorem hg_15 : (HH A I J U)[15]? = some (ob 3 [.ref 16, .ref 17, .ref 18, .ref 19, .ref 20, .ref 21, .int (I 15 6), .int (I 15 7), .int (I 15 8), .int (I 15 9), .int (I 15 10), .int (I 15 11), .int (I 15 12), .int (I 15 13), .int (I 15 14), .int (I 15 15)]) := rfl
theorem hg_16 : (HH A I J U)[16]? = some (ia (A 16)) := rfl
theorem hg_17 : (HH A I J U)[17]? = some (ia (A 17)) := rfl
theorem hg_18 : (HH A I J U)[18]? = some (ia (A 18)) := rfl
theorem hg_19 : (HH A I J U)[19]? = some (ia (A 19)) := rfl
theorem hg_20 : (HH A I J U)[20]? = some (ia (A 20)) := rfl
theorem hg_21 : (HH A I J U)[21]? = some (ia (A 21)) := rfl
theorem hg_22 : (HH A I J U)[22]? = some (ob 3 [.ref 23, .ref 24, .ref 25, .ref 26, .ref 27, .ref 28, .int (I 22 6), .int (I 22 7), .int (I 22 8), .int (I 22 9), .int (I 22 10), .int (I 22 11), .int (I 22 12), .int (I 22 13), .int (I 22 14), .int (I 22 15)]) := rfl
theorem hg_23 : (HH A I J U)[23]? = some (ia (A 23)) := rfl
theorem hg_24 : (HH A I J U)[24]? = some (ia (A 24)) := rfl
theorem hg_25 : (HH A I J U)[25]? = some (ia (A 25)) := rfl
theorem hg_26 : (HH A I J U)[26]? = some (ia (A 26)) := rfl
theorem hg_27 : (HH A I J U)[27]? = some (ia (A 27)) := rfl
theorem hg_28 : (HH A I J U)[28]? = some (ia (A 28)) := rfl
theorem hg_29 : (HH A I J U)[29]? = some (ob 2 [.ref 30, .int (I 29 1), .int (I 29 2), .int (I 29 3), .int (I 29 4), .int (I 29 5)]) := rfl
theorem hg_30 : (HH A I J U)[30]? = some (ia (A 30)) := rfl
theorem hg_31 : (HH A I J U)[31]? = some (ob 1 [.ref 32, .ref 33]) := rfl
theorem hg_32 : (HH A I J U)[32]? = some (ia (A 32)) := rfl
theorem hg_33 : (HH A I J U)[33]? = some (ia (A 33)) := rfl
theorem hg_34 : (HH A I J U)[34]? = some (ob 0 [.ref 35, .int (I 34 1), .int (I 34 2), .long (U 34 3), .long (U 34 4)]) := rfl
theorem hg_35 : (HH A I J U)[35]? = some (ja (J 35)) := rfl
theorem hg_36 : (HH A I J U)[36]? = some (ob 5 [.ref 37, .ref 38, .int (I 36 2), .ref 39, .int (I 36 4), .int (I 36 5), .ref 40, .int (I 36 7), .ref 41, .int (I 36 9), .ref 42, .ref 43, .int (I 36 12), .int (I 36 13), .int (I 36 14), .int (I 36 15), .ref 44, .ref 45, .ref 46, .ref 47]) := rfl
theorem hg_37 : (HH A I J U)[37]? = some (ia (A 37)) := rfl
theorem hg_38 : (HH A I J U)[38]? = some (ia (A 38)) := rfl
theorem hg_39 : (HH A I J U)[39]? = some (ia (A 39)) := rfl
theorem hg_40 : (HH A I J U)[40]? = some (ia (A 40)) := rfl
theorem hg_41 : (HH A I J U)[41]? = some (ia (A 41)) := rfl
theorem hg_42 : (HH A I J U)[42]? = some (ia (A 42)) := rfl
theorem hg_43 : (HH A I J U)[43]? = some (ia (A 43)) := rfl
theorem hg_44 : (HH A I J U)[44]? = some (ia (A 44)) := rfl
theorem hg_45 : (HH A I J U)[45]? = some (ja (J 45)) := rfl
theorem hg_46 : (HH A I J U)[46]? = some (ia (A 46)) := rfl
theorem hg_47 : (HH A I J U)[47]? = some (za (A 47)) := rfl
theorem hp_0_7 (v : Int32) : (HH A I J U).set 0 (ob 4 ([.ref 1, .ref 8, .ref 15, .ref 22, .ref 29, .ref 31, .ref 34, .int (I 0 7)].set 7 (.int v))) = HH A (u2 I 0 7 v) J U := rfl
theorem hp_1_6 (v : Int32) : (HH A I J U).set 1 (ob 3 ([.ref 2, .ref 3, .ref 4, .ref 5, .ref 6, .ref 7, .int (I 1 6), .int (I 1 7), .int (I 1 8), .int (I 1 9), .int (I 1 10), .int (I 1 11), .int (I 1 12), .int (I 1 13), .int (I 1 14), .int (I 1 15)].set 6 (.int v))) = HH A (u2 I 1 6 v) J U := rfl
theorem hp_1_7 (v : Int32) : (HH A I J U).set 1 (ob 3 ([.ref 2, .ref 3, .ref 4, .ref 5, .ref 6, .ref 7, .int (I 1 6), .int (I 1 7), .int (I 1 8), .int (I 1 9), .int (I 1 10), .int (I 1 11), .int (I 1 12), .int (I 1 13), .int (I 1 14), .int (I 1 15)].set 7 (.int v))) = HH A (u2 I 1 7 v) J U := rfl
theorem hp_1_8 (v : Int32) : (HH A I J U).set 1 (ob 3 ([.ref 2, .ref 3, .ref 4, .ref 5, .ref 6, .ref 7, .int (I 1 6), .int (I 1 7), .int (I 1 8), .int (I 1 9), .int (I 1 10), .int (I 1 11), .int (I 1 12), .int (I 1 13), .int (I 1 14), .int (I 1 15)].set 8 (.int v))) = HH A (u2 I 1 8 v) J U := rfl
theorem hp_1_9 (v : Int32) : (HH A I J U).set 1 (ob 3 ([.ref 2, .ref 3, .ref 4, .ref 5, .ref 6, .ref 7, .int (I 1 6), .int (I 1 7), .int (I 1 8), .int (I 1 9), .int (I 1 10), .int (I 1 11), .int (I 1 12), .int (I 1 13), .int (I 1 14), .int (I 1 15)].set 9 (.int v))) = HH A (u2 I 1 9 v) J U := rfl
theorem hp_1_10 (v : Int32) : (HH A I J U).set 1 (ob 3 ([.ref 2, .ref 3, .ref 4, .ref 5, .ref 6, .ref 7, .int (I 1 6), .int (I 1 7), .int (I 1 8), .int (I 1 9), .int (I 1 10), .int (I 1 11), .int (I 1 12), .int (I 1 13), .int (I 1 14), .int (I 1 15)].set 10 (.int v))) = HH A (u2 I 1 10 v) J U := rfl
theorem hp_1_11 (v : Int32) : (HH A I J U).set 1 (ob 3 ([.ref 2, .ref 3, .ref 4, .ref 5, .ref 6, .ref 7, .int (I 1 6), .int (I 1 7), .int (I 1 8), .int (I 1 9), .int (I 1 10), .int (I 1 11), .int (I 1 12), .int (I 1 13), .int (I 1 14), .int (I 1 15)].set 11 (.int v))) = HH A (u2 I 1 11 v) J U := rfl
theorem hp_1_12 (v : Int32) : (HH A I J U).set 1 (ob 3 ([.ref 2, .ref 3, .ref 4, .ref 5, .ref 6, .ref 7, .int (I 1 6), .int (I 1 7), .int (I 1 8), .int (I 1 9), .int (I 1 10), .int (I 1 11), .int (I 1 12), .int (I 1 13), .int (I 1 14), .int (I 1 15)].set 12 (.int v))) = HH A (u2 I 1 12 v) J U := rfl
theorem hp_1_13 (v : Int32) : (HH A I J U).set 1 (ob 3 ([.ref 2, .ref 3, .ref 4, .ref 5, .ref 6, .ref 7, .int (I 1 6), .int (I 1 7), .int (I 1 8), .int (I 1 9), .int (I 1 10), .int (I 1 11), .int (I 1 12), .int (I 1 13), .int (I 1 14), .int (I 1 15)].set 13 (.int v))) = HH A (u2 I 1 13 v) J U := rfl
theorem hp_1_14 (v : Int32) : (HH A I J U).set 1 (ob 3 ([.ref 2, .ref 3, .ref 4, .ref 5, .ref 6, .ref 7, .int (I 1 6), .int (I 1 7), .int (I 1 8), .int (I 1 9), .int (I 1 10), .int (I 1 11), .int (I 1 12), .int (I 1 13), .int (I 1 14), .int (I 1 15)].set 14 (.int v))) = HH A (u2 I 1 14 v) J U := rfl
theorem hp_1_15 (v : Int32) : (HH A I J U).set 1 (ob 3 ([.ref 2, .ref 3, .ref 4, .ref 5, .ref 6, .ref 7, .int (I 1 6), .int (I 1 7), .int (I 1 8), .int (I 1 9), .int (I 1 10), .int (I 1 11), .int (I 1 12), .int (I 1 13), .int (I 1 14), .int (I 1 15)].set 15 (.int v))) = HH A (u2 I 1 15 v) J U := rfl
theorem hs_2 (xs : List Int32) : (HH A I J U).set 2 (ia xs) = HH (u1 A 2 xs) I J U := rfl
theorem hs_3 (xs : List Int32) : (HH A I J U).set 3 (ia xs) = HH (u1 A 3 xs) I J U := rfl
theorem hs_4 (xs : List Int32) : (HH A I J U).set 4 (ia xs) = HH (u1 A 4 xs) I J U := rfl
theorem hs_5 (xs : List Int32) : (HH A I J U).set 5 (ia xs) = HH (u1 A 5 xs) I J U := rfl
theorem hs_6 (xs : List Int32) : (HH A I J U).set 6 (ia xs) = HH (u1 A 6 xs) I J U := rfl
theorem hs_7 (xs : List Int32) : (HH A I J U).set 7 (ia xs) = HH (u1 A 7 xs) I J U := rfl
theorem hp_8_6 (v : Int32) : (HH A I J U).set 8 (ob 3 ([.ref 9, .ref 10, .ref 11, .ref 12, .ref 13, .ref 14, .int (I 8 6), .int (I 8 7), .int (I 8 8), .int (I 8 9), .int (I 8 10), .int (I 8 11), .int (I 8 12), .int (I 8 13), .int (I 8 14), .int (I 8 15)].set 6 (.int v))) = HH A (u2 I 8 6 v) J U := rfl
theorem hp_8_7 (v : Int32) : (HH A I J U).set 8 (ob 3 ([.ref 9, .ref 10, .ref 11, .ref 12, .ref 13, .ref 14, .int (I 8 6), .int (I 8 7), .int (I 8 8), .int (I 8 9), .int (I 8 10), .int (I 8 11), .int (I 8 12), .int (I 8 13), .int (I 8 14), .int (I 8 15)].set 7 (.int v))) = HH A (u2 I 8 7 v) J U := rfl
theorem hp_8_8 (v : Int32) : (HH A I J U).set 8 (ob 3 ([.ref 9, .ref 10, .ref 11, .ref 12, .ref 13, .ref 14, .int (I 8 6), .int (I 8 7), .int (I 8 8), .int (I 8 9), .int (I 8 10), .int (I 8 11), .int (I 8 12), .int (I 8 13), .int (I 8 14), .int (I 8 15)].set 8 (.int v))) = HH A (u2 I 8 8 v) J U := rfl
theorem hp_8_9 (v : Int32) : (HH A I J U).set 8 (ob 3 ([.ref 9, .ref 10, .ref 11, .ref 12, .ref 13, .ref 14, .int (I 8 6), .int (I 8 7), .int (I 8 8), .int (I 8 9), .int (I 8 10), .int (I 8 11), .int (I 8 12), .int (I 8 13), .int (I 8 14), .int (I 8 15)].set 9 (.int v))) = HH A (u2 I 8 9 v) J U := rfl
theorem hp_8_10 (v : Int32) : (HH A I J U).set 8 (ob 3 ([.ref 9, .ref 10, .ref 11, .ref 12, .ref 13, .ref 14, .int (I 8 6), .int (I 8 7), .int (I 8 8), .int (I 8 9), .int (I 8 10), .int (I 8 11), .int (I 8 12), .int (I 8 13), .int (I 8 14), .int (I 8 15)].set 10 (.int v))) = HH A (u2 I 8 10 v) J U := rfl
theorem hp_8_11 (v : Int32) : (HH A I J U).set 8 (ob 3 ([.ref 9, .ref 10, .ref 11, .ref 12, .ref 13, .ref 14, .int (I 8 6), .int (I 8 7), .int (I 8 8), .int (I 8 9), .int (I 8 10), .int (I 8 11), .int (I 8 12), .int (I 8 13), .int (I 8 14), .int (I 8 15)].set 11 (.int v))) = HH A (u2 I 8 11 v) J U := rfl
theorem hp_8_12 (v : Int32) : (HH A I J U).set 8 (ob 3 ([.ref 9, .ref 10, .ref 11, .ref 12, .ref 13, .ref 14, .int (I 8 6), .int (I 8 7), .int (I 8 8), .int (I 8 9), .int (I 8 10), .int (I 8 11), .int (I 8 12), .int (I 8 13), .int (I 8 14), .int (I 8 15)].set 12 (.int v))) = HH A (u2 I 8 12 v) J U := rfl
theorem hp_8_13 (v : Int32) : (HH A I J U).set 8 (ob 3 ([.ref 9, .ref 10, .ref 11, .ref 12, .ref 13, .ref 14, .int (I 8 6), .int (I 8 7), .int (I 8 8), .int (I 8 9), .int (I 8 10), .int (I 8 11), .int (I 8 12), .int (I 8 13), .int (I 8 14), .int (I 8 15)].set 13 (.int v))) = HH A (u2 I 8 13 v) J U := rfl
theorem hp_8_14 (v : Int32) : (HH A I J U).set 8 (ob 3 ([.ref 9, .ref 10, .ref 11, .ref 12, .ref 13, .ref 14, .int (I 8 6), .int (I 8 7), .int (I 8 8), .int (I 8 9), .int (I 8 10), .int (I 8 11), .int (I 8 12), .int (I 8 13), .int (I 8 14), .int (I 8 15)].set 14 (.int v))) = HH A (u2 I 8 14 v) J U := rfl
theorem hp_8_15 (v : Int32) : (HH A I J U).set 8 (ob 3 ([.ref 9, .ref 10, .ref 11, .ref 12, .ref 13, .ref 14, .int (I 8 6), .int (I 8 7), .int (I 8 8), .int (I 8 9), .int (I 8 10), .int (I 8 11), .int (I 8 12), .int (I 8 13), .int (I 8 14), .int (I 8 15)].set 15 (.int v))) = HH A (u2 I 8 15 v) J U := rfl
theorem hs_9 (xs : List Int32) : (HH A I J U).set 9 (ia xs) = HH (u1 A 9 xs) I J U := rfl
theorem hs_10 (xs : List Int32) : (HH A I J U).set 10 (ia xs) = HH (u1 A 10 xs) I J U := rfl
theorem hs_11 (xs : List Int32) : (HH A I J U).set 11 (ia xs) = HH (u1 A 11 xs) I J U := rfl
theorem hs_12 (xs : List Int32) : (HH A I J U).set 12 (ia xs) = HH (u1 A 12 xs) I J U := rfl
theorem hs_13 (xs : List Int32) : (HH A I J U).set 13 (ia xs) = HH (u1 A 13 xs) I J U := rfl
theorem hs_14 (xs : List Int32) : (HH A I J U).set 14 (ia xs) = HH (u1 A 14 xs) I J U := rfl
theorem hp_15_6 (v : Int32) : (HH A I J U).set 15 (ob 3 ([.ref 16, .ref 17, .ref 18, .ref 19, .ref 20, .ref 21, .int (I 15 6), .int (I 15 7), .int (I 15 8), .int (I 15 9), .int (I 15 10), .int (I 15 11), .int (I 15 12), .int (I 15 13), .int (I 15 14), .int (I 15 15)].set 6 (.int v))) = HH A (u2 I 15 6 v) J U := rfl
theorem hp_15_7 (v : Int32) : (HH A I J U).set 15 (ob 3 ([.ref 16, .ref 17, .ref 18, .ref 19, .ref 20, .ref 21, .int (I 15 6), .int (I 15 7), .int (I 15 8), .int (I 15 9), .int (I 15 10), .int (I 15 11), .int (I 15 12), .int (I 15 13), .int (I 15 14), .int (I 15 15)].set 7 (.int v))) = HH A (u2 I 15 7 v) J U := rfl
theorem hp_15_8 (v : Int32) : (HH A I J U).set 15 (ob 3 ([.ref 16, .ref 17, .ref 18, .ref 19, .ref 20, .ref 21, .int (I 15 6), .int (I 15 7), .int (I 15 8), .int (I 15 9), .int (I 15 10), .int (I 15 11), .int (I 15 12), .int (I 15 13), .int (I 15 14), .int (I 15 15)].set 8 (.int v))) = HH A (u2 I 15 8 v) J U := rfl
theorem hp_15_9 (v : Int32) : (HH A I J U).set 15 (ob 3 ([.ref 16, .ref 17, .ref 18, .ref 19, .ref 20, .ref 21, .int (I 15 6), .int (I 15 7), .int (I 15 8), .int (I 15 9), .int (I 15 10), .int (I 15 11), .int (I 15 12), .int (I 15 13), .int (I 15 14), .int (I 15 15)].set 9 (.int v))) = HH A (u2 I 15 9 v) J U := rfl
theorem hp_15_10 (v : Int32) : (HH A I J U).set 15 (ob 3 ([.ref 16, .ref 17, .ref 18, .ref 19, .ref 20, .ref 21, .int (I 15 6), .int (I 15 7), .int (I 15 8), .int (I 15 9), .int (I 15 10), .int (I 15 11), .int (I 15 12), .int (I 15 13), .int (I 15 14), .int (I 15 15)].set 10 (.int v))) = HH A (u2 I 15 10 v) J U := rfl
theorem hp_15_11 (v : Int32) : (HH A I J U).set 15 (ob 3 ([.ref 16, .ref 17, .ref 18, .ref 19, .ref 20, .ref 21, .int (I 15 6), .int (I 15 7), .int (I 15 8), .int (I 15 9), .int (I 15 10), .int (I 15 11), .int (I 15 12), .int (I 15 13), .int (I 15 14), .int (I 15 15)].set 11 (.int v))) = HH A (u2 I 15 11 v) J U := rfl
theorem hp_15_12 (v : Int32) : (HH A I J U).set 15 (ob 3 ([.ref 16, .ref 17, .ref 18, .ref 19, .ref 20, .ref 21, .int (I 15 6), .int (I 15 7), .int (I 15 8), .int (I 15 9), .int (I 15 10), .int (I 15 11), .int (I 15 12), .int (I 15 13), .int (I 15 14), .int (I 15 15)].set 12 (.int v))) = HH A (u2 I 15 12 v) J U := rfl
theorem hp_15_13 (v : Int32) : (HH A I J U).set 15 (ob 3 ([.ref 16, .ref 17, .ref 18, .ref 19, .ref 20, .ref 21, .int (I 15 6), .int (I 15 7), .int (I 15 8), .int (I 15 9), .int (I 15 10), .int (I 15 11), .int (I 15 12), .int (I 15 13), .int (I 15 14), .int (I 15 15)].set 13 (.int v))) = HH A (u2 I 15 13 v) J U := rfl
theorem hp_15_14 (v : Int32) : (HH A I J U).set 15 (ob 3 ([.ref 16, .ref 17, .ref 18, .ref 19, .ref 20, .ref 21, .int (I 15 6), .int (I 15 7), .int (I 15 8), .int (I 15 9), .int (I 15 10), .int (I 15 11), .int (I 15 12), .int (I 15 13), .int (I 15 14), .int (I 15 15)].set 14 (.int v))) = HH A (u2 I 15 14 v) J U := rfl
theorem hp_15_15 (v : Int32) : (HH A I J U).set 15 (ob 3 ([.ref 16, .ref 17, .ref 18, .ref 19, .ref 20, .ref 21, .int (I 15 6), .int (I 15 7), .int (I 15 8), .int (I 15 9), .int (I 15 10), .int (I 15 11), .int (I 15 12), .int (I 15 13), .int (I 15 14), .int (I 15 15)].set 15 (.int v))) = HH A (u2 I 15 15 v) J U := rfl
theorem hs_16 (xs : List Int32) : (HH A I J U).set 16 (ia xs) = HH (u1 A 16 xs) I J U := rfl
theorem hs_17 (xs : List Int32) : (HH A I J U).set 17 (ia xs) = HH (u1 A 17 xs) I J U := rfl
theorem hs_18 (xs : List Int32) : (HH A I J U).set 18 (ia xs) = HH (u1 A 18 xs) I J U := rfl
theorem hs_19 (xs : List Int32) : (HH A I J U).set 19 (ia xs) = HH (u1 A 19 xs) I J U := rfl
theorem hs_20 (xs : List Int32) : (HH A I J U).set 20 (ia xs) = HH (u1 A 20 xs) I J U := rfl
theorem hs_21 (xs : List Int32) : (HH A I J U).set 21 (ia xs) = HH (u1 A 21 xs) I J U := rfl
theorem hp_22_6 (v : Int32) : (HH A I J U).set 22 (ob 3 ([.ref 23, .ref 24, .ref 25, .ref 26, .ref 27, .ref 28, .int (I 22 6), .int (I 22 7), .int (I 22 8), .int (I 22 9), .int (I 22 10), .int (I 22 11), .int (I 22 12), .int (I 22 13), .int (I 22 14), .int (I 22 15)].set 6 (.int v))) = HH A (u2 I 22 6 v) J U := rfl
theorem hp_22_7 (v : Int32) : (HH A I J U).set 22 (ob 3 ([.ref 23, .ref 24, .ref 25, .ref 26, .ref 27, .ref 28, .int (I 22 6), .int (I 22 7), .int (I 22 8), .int (I 22 9), .int (I 22 10), .int (I 22 11), .int (I 22 12), .int (I 22 13), .int (I 22 14), .int (I 22 15)].set 7 (.int v))) = HH A (u2 I 22 7 v) J U := rfl
theorem hp_22_8 (v : Int32) : (HH A I J U).set 22 (ob 3 ([.ref 23, .ref 24, .ref 25, .ref 26, .ref 27, .ref 28, .int (I 22 6), .int (I 22 7), .int (I 22 8), .int (I 22 9), .int (I 22 10), .int (I 22 11), .int (I 22 12), .int (I 22 13), .int (I 22 14), .int (I 22 15)].set 8 (.int v))) = HH A (u2 I 22 8 v) J U := rfl
theorem hp_22_9 (v : Int32) : (HH A I J U).set 22 (ob 3 ([.ref 23, .ref 24, .ref 25, .ref 26, .ref 27, .ref 28, .int (I 22 6), .int (I 22 7), .int (I 22 8), .int (I 22 9), .int (I 22 10), .int (I 22 11), .int (I 22 12), .int (I 22 13), .int (I 22 14), .int (I 22 15)].set 9 (.int v))) = HH A (u2 I 22 9 v) J U := rfl
theorem hp_22_10 (v : Int32) : (HH A I J U).set 22 (ob 3 ([.ref 23, .ref 24, .ref 25, .ref 26, .ref 27, .ref 28, .int (I 22 6), .int (I 22 7), .int (I 22 8), .int (I 22 9), .int (I 22 10), .int (I 22 11), .int (I 22 12), .int (I 22 13), .int (I 22 14), .int (I 22 15)].set 10 (.int v))) = HH A (u2 I 22 10 v) J U := rfl
theorem hp_22_11 (v : Int32) : (HH A I J U).set 22 (ob 3 ([.ref 23, .ref 24, .ref 25, .ref 26, .ref 27, .ref 28, .int (I 22 6), .int (I 22 7), .int (I 22 8), .int (I 22 9), .int (I 22 10), .int (I 22 11), .int (I 22 12), .int (I 22 13), .int (I 22 14), .int (I 22 15)].set 11 (.int v))) = HH A (u2 I 22 11 v) J U := rfl
theorem hp_22_12 (v : Int32) : (HH A I J U).set 22 (ob 3 ([.ref 23, .ref 24, .ref 25, .ref 26, .ref 27, .ref 28, .int (I 22 6), .int (I 22 7), .int (I 22 8), .int (I 22 9), .int (I 22 10), .int (I 22 11), .int (I 22 12), .int (I 22 13), .int (I 22 14), .int (I 22 15)].set 12 (.int v))) = HH A (u2 I 22 12 v) J U := rfl
theorem hp_22_13 (v : Int32) : (HH A I J U).set 22 (ob 3 ([.ref 23, .ref 24, .ref 25, .ref 26, .ref 27, .ref 28, .int (I 22 6), .int (I 22 7), .int (I 22 8), .int (I 22 9), .int (I 22 10), .int (I 22 11), .int (I 22 12), .int (I 22 13), .int (I 22 14), .int (I 22 15)].set 13 (.int v))) = HH A (u2 I 22 13 v) J U := rfl
theorem hp_22_14 (v : Int32) : (HH A I J U).set 22 (ob 3 ([.ref 23, .ref 24, .ref 25, .ref 26, .ref 27, .ref 28, .int (I 22 6), .int (I 22 7), .int (I 22 8), .int (I 22 9), .int (I 22 10), .int (I 22 11), .int (I 22 12), .int (I 22 13), .int (I 22 14), .int (I 22 15)].set 14 (.int v))) = HH A (u2 I 22 14 v) J U := rfl
theorem hp_22_15 (v : Int32) : (HH A I J U).set 22 (ob 3 ([.ref 23, .ref 24, .ref 25, .ref 26, .ref 27, .ref 28, .int (I 22 6), .int (I 22 7), .int (I 22 8), .int (I 22 9), .int (I 22 10), .int (I 22 11), .int (I 22 12), .int (I 22 13), .int (I 22 14), .int (I 22 15)].set 15 (.int v))) = HH A (u2 I 22 15 v) J U := rfl
theorem hs_23 (xs : List Int32) : (HH A I J U).set 23 (ia xs) = HH (u1 A 23 xs) I J U := rfl
theorem hs_24 (xs : List Int32) : (HH A I J U).set 24 (ia xs) = HH (u1 A 24 xs) I J U := rfl
theorem hs_25 (xs : List Int32) : (HH A I J U).set 25 (ia xs) = HH (u1 A 25 xs) I J U := rfl
theorem hs_26 (xs : List Int32) : (HH A I J U).set 26 (ia xs) = HH (u1 A 26 xs) I J U := rfl
theorem hs_27 (xs : List Int32) : (HH A I J U).set 27 (ia xs) = HH (u1 A 27 xs) I J U := rfl
theorem hs_28 (xs : List Int32) : (HH A I J U).set 28 (ia xs) = HH (u1 A 28 xs) I J U := rfl
theorem hp_29_1 (v : Int32) : (HH A I J U).set 29 (ob 2 ([.ref 30, .int (I 29 1), .int (I 29 2), .int (I 29 3), .int (I 29 4), .int (I 29 5)].set 1 (.int v))) = HH A (u2 I 29 1 v) J U := rfl
theorem hp_29_2 (v : Int32) : (HH A I J U).set 29 (ob 2 ([.ref 30, .int (I 29 1), .int (I 29 2), .int (I 29 3), .int (I 29 4), .int (I 29 5)].set 2 (.int v))) = HH A (u2 I 29 2 v) J U := rfl
theorem hp_29_3 (v : Int32) : (HH A I J U).set 29 (ob 2 ([.ref 30, .int (I 29 1), .int (I 29 2), .int (I 29 3), .int (I 29 4), .int (I 29 5)].set 3 (.int v))) = HH A (u2 I 29 3 v) J U := rfl
theorem hp_29_4 (v : Int32) : (HH A I J U).set 29 (ob 2 ([.ref 30, .int (I 29 1), .int (I 29 2), .int (I 29 3), .int (I 29 4), .int (I 29 5)].set 4 (.int v))) = HH A (u2 I 29 4 v) J U := rfl
theorem hp_29_5 (v : Int32) : (HH A I J U).set 29 (ob 2 ([.ref 30, .int (I 29 1), .int (I 29 2), .int (I 29 3), .int (I 29 4), .int (I 29 5)].set 5 (.int v))) = HH A (u2 I 29 5 v) J U := rfl
theorem hs_30 (xs : List Int32) : (HH A I J U).set 30 (ia xs) = HH (u1 A 30 xs) I J U := rfl
theorem hs_32 (xs : List Int32) : (HH A I J U).set 32 (ia xs) = HH (u1 A 32 xs) I J U := rfl
theorem hs_33 (xs : List Int32) : (HH A I J U).set 33 (ia xs) = HH (u1 A 33 xs) I J U := rfl
theorem hp_34_1 (v : Int32) : (HH A I J U).set 34 (ob 0 ([.ref 35, .int (I 34 1), .int (I 34 2), .long (U 34 3), .long (U 34 4)].set 1 (.int v))) = HH A (u2 I 34 1 v) J U := rfl
theorem hp_34_2 (v : Int32) : (HH A I J U).set 34 (ob 0 ([.ref 35, .int (I 34 1), .int (I 34 2), .long (U 34 3), .long (U 34 4)].set 2 (.int v))) = HH A (u2 I 34 2 v) J U := rfl
theorem hp_34_3 (v : Int64) : (HH A I J U).set 34 (ob 0 ([.ref 35, .int (I 34 1), .int (I 34 2), .long (U 34 3), .long (U 34 4)].set 3 (.long v))) = HH A I J (u2 U 34 3 v) := rfl
theorem hp_34_4 (v : Int64) : (HH A I J U).set 34 (ob 0 ([.ref 35, .int (I 34 1), .int (I 34 2), .long (U 34 3), .long (U 34 4)].set 4 (.long v))) = HH A I J (u2 U 34 4 v) := rfl
theorem hs_35 (xs : List Int64) : (HH A I J U).set 35 (ja xs) = HH A I (u1 J 35 xs) U := rfl
theorem hp_36_2 (v : Int32) : (HH A I J U).set 36 (ob 5 ([.ref 37, .ref 38, .int (I 36 2), .ref 39, .int (I 36 4), .int (I 36 5), .ref 40, .int (I 36 7), .ref 41, .int (I 36 9), .ref 42, .ref 43, .int (I 36 12), .int (I 36 13), .int (I 36 14), .int (I 36 15), .ref 44, .ref 45, .ref 46, .ref 47].set 2 (.int v))) = HH A (u2 I 36 2 v) J U := rfl
theorem hp_36_4 (v : Int32) : (HH A I J U).set 36 (ob 5 ([.ref 37, .ref 38, .int (I 36 2), .ref 39, .int (I 36 4), .int (I 36 5), .ref 40, .int (I 36 7), .ref 41, .int (I 36 9), .ref 42, .ref 43, .int (I 36 12), .int (I 36 13), .int (I 36 14), .int (I 36 15), .ref 44, .ref 45, .ref 46, .ref 47].set 4 (.int v))) = HH A (u2 I 36 4 v) J U := rfl
theorem hp_36_5 (v : Int32) : (HH A I J U).set 36 (ob 5 ([.ref 37, .ref 38, .int (I 36 2), .ref 39, .int (I 36 4), .int (I 36 5), .ref 40, .int (I 36 7), .ref 41, .int (I 36 9), .ref 42, .ref 43, .int (I 36 12), .int (I 36 13), .int (I 36 14), .int (I 36 15), .ref 44, .ref 45, .ref 46, .ref 47].set 5 (.int v))) = HH A (u2 I 36 5 v) J U := rfl
theorem hp_36_7 (v : Int32) : (HH A I J U).set 36 (ob 5 ([.ref 37, .ref 38, .int (I 36 2), .ref 39, .int (I 36 4), .int (I 36 5), .ref 40, .int (I 36 7), .ref 41, .int (I 36 9), .ref 42, .ref 43, .int (I 36 12), .int (I 36 13), .int (I 36 14), .int (I 36 15), .ref 44, .ref 45, .ref 46, .ref 47].set 7 (.int v))) = HH A (u2 I 36 7 v) J U := rfl
theorem hp_36_9 (v : Int32) : (HH A I J U).set 36 (ob 5 ([.ref 37, .ref 38, .int (I 36 2), .ref 39, .int (I 36 4), .int (I 36 5), .ref 40, .int (I 36 7), .ref 41, .int (I 36 9), .ref 42, .ref 43, .int (I 36 12), .int (I 36 13), .int (I 36 14), .int (I 36 15), .ref 44, .ref 45, .ref 46, .ref 47].set 9 (.int v))) = HH A (u2 I 36 9 v) J U := rfl
theorem hp_36_12 (v : Int32) : (HH A I J U).set 36 (ob 5 ([.ref 37, .ref 38, .int (I 36 2), .ref 39, .int (I 36 4), .int (I 36 5), .ref 40, .int (I 36 7), .ref 41, .int (I 36 9), .ref 42, .ref 43, .int (I 36 12), .int (I 36 13), .int (I 36 14), .int (I 36 15), .ref 44, .ref 45, .ref 46, .ref 47].set 12 (.int v))) = HH A (u2 I 36 12 v) J U := rfl
theorem hp_36_13 (v : Int32) : (HH A I J U).set 36 (ob 5 ([.ref 37, .ref 38, .int (I 36 2), .ref 39, .int (I 36 4), .int (I 36 5), .ref 40, .int (I 36 7), .ref 41, .int (I 36 9), .ref 42, .ref 43, .int (I 36 12), .int (I 36 13), .int (I 36 14), .int (I 36 15), .ref 44, .ref 45, .ref 46, .ref 47].set 13 (.int v))) = HH A (u2 I 36 13 v) J U := rfl
theorem hp_36_14 (v : Int32) : (HH A I J U).set 36 (ob 5 ([.ref 37, .ref 38, .int (I 36 2), .ref 39, .int (I 36 4), .int (I 36 5), .ref 40, .int (I 36 7), .ref 41, .int (I 36 9), .ref 42, .ref 43, .int (I 36 12), .int (I 36 13), .int (I 36 14), .int (I 36 15), .ref 44, .ref 45, .ref 46, .ref 47].set 14 (.int v))) = HH A (u2 I 36 14 v) J U := rfl
theorem hp_36_15 (v : Int32) : (HH A I J U).set 36 (ob 5 ([.ref 37, .ref 38, .int (I 36 2), .ref 39, .int (I 36 4), .int (I 36 5), .ref 40, .int (I 36 7), .ref 41, .int (I 36 9), .ref 42, .ref 43, .int (I 36 12), .int (I 36 13), .int (I 36 14), .int (I 36 15), .ref 44, .ref 45, .ref 46, .ref 47].set 15 (.int v))) = HH A (u2 I 36 15 v) J U := rfl
theorem hs_37 (xs : List Int32) : (HH A I J U).set 37 (ia xs) = HH (u1 A 37 xs) I J U := rfl
theorem hs_38 (xs : List Int32) : (HH A I J U).set 38 (ia xs) = HH (u1 A 38 xs) I J U := rfl
theorem hs_39 (xs : List Int32) : (HH A I J U).set 39 (ia xs) = HH (u1 A 39 xs) I J U := rfl
theorem hs_40 (xs : List Int32) : (HH A I J U).set 40 (ia xs) = HH (u1 A 40 xs) I J U := rfl
theorem hs_41 (xs : List Int32) : (HH A I J U).set 41 (ia xs) = HH (u1 A 41 xs) I J U := rfl
theorem hs_42 (xs : List Int32) : (HH A I J U).set 42 (ia xs) = HH (u1 A 42 xs) I J U := rfl
theorem hs_43 (xs : List Int32) : (HH A I J U).set 43 (ia xs) = HH (u1 A 43 xs) I J U := rfl
theorem hs_44 (xs : List Int32) : (HH A I J U).set 44 (ia xs) = HH (u1 A 44 xs) I J U := rfl
theorem hs_45 (xs : List Int64) : (HH A I J U).set 45 (ja xs) = HH A I (u1 J 45 xs) U := rfl
theorem hs_46 (xs : List Int32) : (HH A I J U).set 46 (ia xs) = HH (u1 A 46 xs) I J U := rfl
theorem hs_47 (xs : List Int32) : (HH A I J U).set 47 (za xs) = HH (u1 A 47 xs) I J U := rfl
end WORLD
