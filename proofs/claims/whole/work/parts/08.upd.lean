theorem e_s_st_va (T : St) (v : Int32) : s_st (u_va T v) = s_st T := rfl
theorem e_s_st_sd (T : St) (v : Int32) : s_st (u_sd T v) = s_st T := rfl
theorem e_s_st_bi (T : St) (v : Int32) : s_st (u_bi T v) = s_st T := rfl
theorem e_s_st_wa (T : St) (v : Int32) : s_st (u_wa T v) = s_st T := rfl
theorem e_s_st_he (T : St) (v : Int32) : s_st (u_he T v) = s_st T := rfl
theorem e_s_st_bf (T : St) (v : Int32) : s_st (u_bf T v) = s_st T := rfl
theorem e_s_st_bt (T : St) (v : Int32) : s_st (u_bt T v) = s_st T := rfl
theorem e_s_st_cm (T : St) (v : Int32) : s_st (u_cm T v) = s_st T := rfl
theorem e_s_st_cr (T : St) (v : Int32) : s_st (u_cr T v) = s_st T := rfl
theorem e_s_st_sc (T : St) (v : Nat → Int32) : s_st (u_sc T v) = s_st T := rfl
theorem e_s_st_wy (T : St) (v : Nat → Int32) : s_st (u_wy T v) = s_st T := rfl
theorem e_s_st_wi (T : St) (v : Nat → Int32) : s_st (u_wi T v) = s_st T := rfl
theorem e_s_st_ki (T : St) (v : Nat → Int32) : s_st (u_ki T v) = s_st T := rfl
theorem e_s_st_so (T : St) (v : Nat → Int32) : s_st (u_so T v) = s_st T := rfl
theorem e_s_st_li (T : St) (v : Nat → Int32) : s_st (u_li T v) = s_st T := rfl
theorem e_s_st_sv (T : St) (v : Nat → Int32) : s_st (u_sv T v) = s_st T := rfl
theorem e_s_st_ss (T : St) (v : Nat → Int32) : s_st (u_ss T v) = s_st T := rfl
theorem e_s_st_sh (T : St) (v : Nat → Int32) : s_st (u_sh T v) = s_st T := rfl
theorem e_s_st_sm (T : St) (v : Nat → Int32) : s_st (u_sm T v) = s_st T := rfl
theorem e_s_st_le (T : St) (v : Nat → Int32) : s_st (u_le T v) = s_st T := rfl
theorem e_s_st_bd (T : St) (v : Nat → Int32) : s_st (u_bd T v) = s_st T := rfl
theorem e_s_st_du (T : St) (v : Nat → Int32) : s_st (u_du T v) = s_st T := rfl
theorem e_s_st_wt (T : St) (v : Nat → Int32) : s_st (u_wt T v) = s_st T := rfl
theorem e_s_st_co (T : St) (v : Nat → Int32) : s_st (u_co T v) = s_st T := rfl
theorem es_s_st (T : St) (v : Int32) : s_st (u_st T v) = v := rfl
theorem uu_s_st (T : St) (v w : Int32) : u_st (u_st T v) w = u_st T w := rfl
theorem e_s_va_st (T : St) (v : Int32) : s_va (u_st T v) = s_va T := rfl
theorem e_s_va_sd (T : St) (v : Int32) : s_va (u_sd T v) = s_va T := rfl
theorem e_s_va_bi (T : St) (v : Int32) : s_va (u_bi T v) = s_va T := rfl
theorem e_s_va_wa (T : St) (v : Int32) : s_va (u_wa T v) = s_va T := rfl
theorem e_s_va_he (T : St) (v : Int32) : s_va (u_he T v) = s_va T := rfl
theorem e_s_va_bf (T : St) (v : Int32) : s_va (u_bf T v) = s_va T := rfl
theorem e_s_va_bt (T : St) (v : Int32) : s_va (u_bt T v) = s_va T := rfl
theorem e_s_va_cm (T : St) (v : Int32) : s_va (u_cm T v) = s_va T := rfl
theorem e_s_va_cr (T : St) (v : Int32) : s_va (u_cr T v) = s_va T := rfl
theorem e_s_va_sc (T : St) (v : Nat → Int32) : s_va (u_sc T v) = s_va T := rfl
theorem e_s_va_wy (T : St) (v : Nat → Int32) : s_va (u_wy T v) = s_va T := rfl
theorem e_s_va_wi (T : St) (v : Nat → Int32) : s_va (u_wi T v) = s_va T := rfl
theorem e_s_va_ki (T : St) (v : Nat → Int32) : s_va (u_ki T v) = s_va T := rfl
theorem e_s_va_so (T : St) (v : Nat → Int32) : s_va (u_so T v) = s_va T := rfl
theorem e_s_va_li (T : St) (v : Nat → Int32) : s_va (u_li T v) = s_va T := rfl
theorem e_s_va_sv (T : St) (v : Nat → Int32) : s_va (u_sv T v) = s_va T := rfl
theorem e_s_va_ss (T : St) (v : Nat → Int32) : s_va (u_ss T v) = s_va T := rfl
theorem e_s_va_sh (T : St) (v : Nat → Int32) : s_va (u_sh T v) = s_va T := rfl
theorem e_s_va_sm (T : St) (v : Nat → Int32) : s_va (u_sm T v) = s_va T := rfl
theorem e_s_va_le (T : St) (v : Nat → Int32) : s_va (u_le T v) = s_va T := rfl
theorem e_s_va_bd (T : St) (v : Nat → Int32) : s_va (u_bd T v) = s_va T := rfl
theorem e_s_va_du (T : St) (v : Nat → Int32) : s_va (u_du T v) = s_va T := rfl
theorem e_s_va_wt (T : St) (v : Nat → Int32) : s_va (u_wt T v) = s_va T := rfl
theorem e_s_va_co (T : St) (v : Nat → Int32) : s_va (u_co T v) = s_va T := rfl
theorem es_s_va (T : St) (v : Int32) : s_va (u_va T v) = v := rfl
theorem uu_s_va (T : St) (v w : Int32) : u_va (u_va T v) w = u_va T w := rfl
theorem e_s_sd_st (T : St) (v : Int32) : s_sd (u_st T v) = s_sd T := rfl
theorem e_s_sd_va (T : St) (v : Int32) : s_sd (u_va T v) = s_sd T := rfl
theorem e_s_sd_bi (T : St) (v : Int32) : s_sd (u_bi T v) = s_sd T := rfl
theorem e_s_sd_wa (T : St) (v : Int32) : s_sd (u_wa T v) = s_sd T := rfl
theorem e_s_sd_he (T : St) (v : Int32) : s_sd (u_he T v) = s_sd T := rfl
theorem e_s_sd_bf (T : St) (v : Int32) : s_sd (u_bf T v) = s_sd T := rfl
theorem e_s_sd_bt (T : St) (v : Int32) : s_sd (u_bt T v) = s_sd T := rfl
theorem e_s_sd_cm (T : St) (v : Int32) : s_sd (u_cm T v) = s_sd T := rfl
theorem e_s_sd_cr (T : St) (v : Int32) : s_sd (u_cr T v) = s_sd T := rfl
theorem e_s_sd_sc (T : St) (v : Nat → Int32) : s_sd (u_sc T v) = s_sd T := rfl
theorem e_s_sd_wy (T : St) (v : Nat → Int32) : s_sd (u_wy T v) = s_sd T := rfl
theorem e_s_sd_wi (T : St) (v : Nat → Int32) : s_sd (u_wi T v) = s_sd T := rfl
theorem e_s_sd_ki (T : St) (v : Nat → Int32) : s_sd (u_ki T v) = s_sd T := rfl
theorem e_s_sd_so (T : St) (v : Nat → Int32) : s_sd (u_so T v) = s_sd T := rfl
theorem e_s_sd_li (T : St) (v : Nat → Int32) : s_sd (u_li T v) = s_sd T := rfl
theorem e_s_sd_sv (T : St) (v : Nat → Int32) : s_sd (u_sv T v) = s_sd T := rfl
theorem e_s_sd_ss (T : St) (v : Nat → Int32) : s_sd (u_ss T v) = s_sd T := rfl
theorem e_s_sd_sh (T : St) (v : Nat → Int32) : s_sd (u_sh T v) = s_sd T := rfl
theorem e_s_sd_sm (T : St) (v : Nat → Int32) : s_sd (u_sm T v) = s_sd T := rfl
theorem e_s_sd_le (T : St) (v : Nat → Int32) : s_sd (u_le T v) = s_sd T := rfl
theorem e_s_sd_bd (T : St) (v : Nat → Int32) : s_sd (u_bd T v) = s_sd T := rfl
theorem e_s_sd_du (T : St) (v : Nat → Int32) : s_sd (u_du T v) = s_sd T := rfl
theorem e_s_sd_wt (T : St) (v : Nat → Int32) : s_sd (u_wt T v) = s_sd T := rfl
theorem e_s_sd_co (T : St) (v : Nat → Int32) : s_sd (u_co T v) = s_sd T := rfl
theorem es_s_sd (T : St) (v : Int32) : s_sd (u_sd T v) = v := rfl
theorem uu_s_sd (T : St) (v w : Int32) : u_sd (u_sd T v) w = u_sd T w := rfl
theorem e_s_bi_st (T : St) (v : Int32) : s_bi (u_st T v) = s_bi T := rfl
theorem e_s_bi_va (T : St) (v : Int32) : s_bi (u_va T v) = s_bi T := rfl
theorem e_s_bi_sd (T : St) (v : Int32) : s_bi (u_sd T v) = s_bi T := rfl
theorem e_s_bi_wa (T : St) (v : Int32) : s_bi (u_wa T v) = s_bi T := rfl
theorem e_s_bi_he (T : St) (v : Int32) : s_bi (u_he T v) = s_bi T := rfl
theorem e_s_bi_bf (T : St) (v : Int32) : s_bi (u_bf T v) = s_bi T := rfl
theorem e_s_bi_bt (T : St) (v : Int32) : s_bi (u_bt T v) = s_bi T := rfl
theorem e_s_bi_cm (T : St) (v : Int32) : s_bi (u_cm T v) = s_bi T := rfl
theorem e_s_bi_cr (T : St) (v : Int32) : s_bi (u_cr T v) = s_bi T := rfl
theorem e_s_bi_sc (T : St) (v : Nat → Int32) : s_bi (u_sc T v) = s_bi T := rfl
theorem e_s_bi_wy (T : St) (v : Nat → Int32) : s_bi (u_wy T v) = s_bi T := rfl
theorem e_s_bi_wi (T : St) (v : Nat → Int32) : s_bi (u_wi T v) = s_bi T := rfl
theorem e_s_bi_ki (T : St) (v : Nat → Int32) : s_bi (u_ki T v) = s_bi T := rfl
theorem e_s_bi_so (T : St) (v : Nat → Int32) : s_bi (u_so T v) = s_bi T := rfl
theorem e_s_bi_li (T : St) (v : Nat → Int32) : s_bi (u_li T v) = s_bi T := rfl
theorem e_s_bi_sv (T : St) (v : Nat → Int32) : s_bi (u_sv T v) = s_bi T := rfl
theorem e_s_bi_ss (T : St) (v : Nat → Int32) : s_bi (u_ss T v) = s_bi T := rfl
theorem e_s_bi_sh (T : St) (v : Nat → Int32) : s_bi (u_sh T v) = s_bi T := rfl
theorem e_s_bi_sm (T : St) (v : Nat → Int32) : s_bi (u_sm T v) = s_bi T := rfl
theorem e_s_bi_le (T : St) (v : Nat → Int32) : s_bi (u_le T v) = s_bi T := rfl
theorem e_s_bi_bd (T : St) (v : Nat → Int32) : s_bi (u_bd T v) = s_bi T := rfl
theorem e_s_bi_du (T : St) (v : Nat → Int32) : s_bi (u_du T v) = s_bi T := rfl
theorem e_s_bi_wt (T : St) (v : Nat → Int32) : s_bi (u_wt T v) = s_bi T := rfl
theorem e_s_bi_co (T : St) (v : Nat → Int32) : s_bi (u_co T v) = s_bi T := rfl
theorem es_s_bi (T : St) (v : Int32) : s_bi (u_bi T v) = v := rfl
theorem uu_s_bi (T : St) (v w : Int32) : u_bi (u_bi T v) w = u_bi T w := rfl
theorem e_s_wa_st (T : St) (v : Int32) : s_wa (u_st T v) = s_wa T := rfl
theorem e_s_wa_va (T : St) (v : Int32) : s_wa (u_va T v) = s_wa T := rfl
theorem e_s_wa_sd (T : St) (v : Int32) : s_wa (u_sd T v) = s_wa T := rfl
theorem e_s_wa_bi (T : St) (v : Int32) : s_wa (u_bi T v) = s_wa T := rfl
theorem e_s_wa_he (T : St) (v : Int32) : s_wa (u_he T v) = s_wa T := rfl
theorem e_s_wa_bf (T : St) (v : Int32) : s_wa (u_bf T v) = s_wa T := rfl
theorem e_s_wa_bt (T : St) (v : Int32) : s_wa (u_bt T v) = s_wa T := rfl
theorem e_s_wa_cm (T : St) (v : Int32) : s_wa (u_cm T v) = s_wa T := rfl
theorem e_s_wa_cr (T : St) (v : Int32) : s_wa (u_cr T v) = s_wa T := rfl
theorem e_s_wa_sc (T : St) (v : Nat → Int32) : s_wa (u_sc T v) = s_wa T := rfl
theorem e_s_wa_wy (T : St) (v : Nat → Int32) : s_wa (u_wy T v) = s_wa T := rfl
theorem e_s_wa_wi (T : St) (v : Nat → Int32) : s_wa (u_wi T v) = s_wa T := rfl
theorem e_s_wa_ki (T : St) (v : Nat → Int32) : s_wa (u_ki T v) = s_wa T := rfl
theorem e_s_wa_so (T : St) (v : Nat → Int32) : s_wa (u_so T v) = s_wa T := rfl
theorem e_s_wa_li (T : St) (v : Nat → Int32) : s_wa (u_li T v) = s_wa T := rfl
theorem e_s_wa_sv (T : St) (v : Nat → Int32) : s_wa (u_sv T v) = s_wa T := rfl
theorem e_s_wa_ss (T : St) (v : Nat → Int32) : s_wa (u_ss T v) = s_wa T := rfl
theorem e_s_wa_sh (T : St) (v : Nat → Int32) : s_wa (u_sh T v) = s_wa T := rfl
theorem e_s_wa_sm (T : St) (v : Nat → Int32) : s_wa (u_sm T v) = s_wa T := rfl
theorem e_s_wa_le (T : St) (v : Nat → Int32) : s_wa (u_le T v) = s_wa T := rfl
theorem e_s_wa_bd (T : St) (v : Nat → Int32) : s_wa (u_bd T v) = s_wa T := rfl
theorem e_s_wa_du (T : St) (v : Nat → Int32) : s_wa (u_du T v) = s_wa T := rfl
theorem e_s_wa_wt (T : St) (v : Nat → Int32) : s_wa (u_wt T v) = s_wa T := rfl
theorem e_s_wa_co (T : St) (v : Nat → Int32) : s_wa (u_co T v) = s_wa T := rfl
theorem es_s_wa (T : St) (v : Int32) : s_wa (u_wa T v) = v := rfl
theorem uu_s_wa (T : St) (v w : Int32) : u_wa (u_wa T v) w = u_wa T w := rfl
theorem e_s_he_st (T : St) (v : Int32) : s_he (u_st T v) = s_he T := rfl
theorem e_s_he_va (T : St) (v : Int32) : s_he (u_va T v) = s_he T := rfl
theorem e_s_he_sd (T : St) (v : Int32) : s_he (u_sd T v) = s_he T := rfl
theorem e_s_he_bi (T : St) (v : Int32) : s_he (u_bi T v) = s_he T := rfl
theorem e_s_he_wa (T : St) (v : Int32) : s_he (u_wa T v) = s_he T := rfl
theorem e_s_he_bf (T : St) (v : Int32) : s_he (u_bf T v) = s_he T := rfl
theorem e_s_he_bt (T : St) (v : Int32) : s_he (u_bt T v) = s_he T := rfl
theorem e_s_he_cm (T : St) (v : Int32) : s_he (u_cm T v) = s_he T := rfl
theorem e_s_he_cr (T : St) (v : Int32) : s_he (u_cr T v) = s_he T := rfl
theorem e_s_he_sc (T : St) (v : Nat → Int32) : s_he (u_sc T v) = s_he T := rfl
theorem e_s_he_wy (T : St) (v : Nat → Int32) : s_he (u_wy T v) = s_he T := rfl
theorem e_s_he_wi (T : St) (v : Nat → Int32) : s_he (u_wi T v) = s_he T := rfl
theorem e_s_he_ki (T : St) (v : Nat → Int32) : s_he (u_ki T v) = s_he T := rfl
theorem e_s_he_so (T : St) (v : Nat → Int32) : s_he (u_so T v) = s_he T := rfl
theorem e_s_he_li (T : St) (v : Nat → Int32) : s_he (u_li T v) = s_he T := rfl
theorem e_s_he_sv (T : St) (v : Nat → Int32) : s_he (u_sv T v) = s_he T := rfl
theorem e_s_he_ss (T : St) (v : Nat → Int32) : s_he (u_ss T v) = s_he T := rfl
theorem e_s_he_sh (T : St) (v : Nat → Int32) : s_he (u_sh T v) = s_he T := rfl
theorem e_s_he_sm (T : St) (v : Nat → Int32) : s_he (u_sm T v) = s_he T := rfl
theorem e_s_he_le (T : St) (v : Nat → Int32) : s_he (u_le T v) = s_he T := rfl
theorem e_s_he_bd (T : St) (v : Nat → Int32) : s_he (u_bd T v) = s_he T := rfl
theorem e_s_he_du (T : St) (v : Nat → Int32) : s_he (u_du T v) = s_he T := rfl
theorem e_s_he_wt (T : St) (v : Nat → Int32) : s_he (u_wt T v) = s_he T := rfl
theorem e_s_he_co (T : St) (v : Nat → Int32) : s_he (u_co T v) = s_he T := rfl
theorem es_s_he (T : St) (v : Int32) : s_he (u_he T v) = v := rfl
theorem uu_s_he (T : St) (v w : Int32) : u_he (u_he T v) w = u_he T w := rfl
theorem e_s_bf_st (T : St) (v : Int32) : s_bf (u_st T v) = s_bf T := rfl
theorem e_s_bf_va (T : St) (v : Int32) : s_bf (u_va T v) = s_bf T := rfl
theorem e_s_bf_sd (T : St) (v : Int32) : s_bf (u_sd T v) = s_bf T := rfl
theorem e_s_bf_bi (T : St) (v : Int32) : s_bf (u_bi T v) = s_bf T := rfl
theorem e_s_bf_wa (T : St) (v : Int32) : s_bf (u_wa T v) = s_bf T := rfl
theorem e_s_bf_he (T : St) (v : Int32) : s_bf (u_he T v) = s_bf T := rfl
theorem e_s_bf_bt (T : St) (v : Int32) : s_bf (u_bt T v) = s_bf T := rfl
theorem e_s_bf_cm (T : St) (v : Int32) : s_bf (u_cm T v) = s_bf T := rfl
theorem e_s_bf_cr (T : St) (v : Int32) : s_bf (u_cr T v) = s_bf T := rfl
theorem e_s_bf_sc (T : St) (v : Nat → Int32) : s_bf (u_sc T v) = s_bf T := rfl
theorem e_s_bf_wy (T : St) (v : Nat → Int32) : s_bf (u_wy T v) = s_bf T := rfl
theorem e_s_bf_wi (T : St) (v : Nat → Int32) : s_bf (u_wi T v) = s_bf T := rfl
theorem e_s_bf_ki (T : St) (v : Nat → Int32) : s_bf (u_ki T v) = s_bf T := rfl
theorem e_s_bf_so (T : St) (v : Nat → Int32) : s_bf (u_so T v) = s_bf T := rfl
theorem e_s_bf_li (T : St) (v : Nat → Int32) : s_bf (u_li T v) = s_bf T := rfl
theorem e_s_bf_sv (T : St) (v : Nat → Int32) : s_bf (u_sv T v) = s_bf T := rfl
theorem e_s_bf_ss (T : St) (v : Nat → Int32) : s_bf (u_ss T v) = s_bf T := rfl
theorem e_s_bf_sh (T : St) (v : Nat → Int32) : s_bf (u_sh T v) = s_bf T := rfl
theorem e_s_bf_sm (T : St) (v : Nat → Int32) : s_bf (u_sm T v) = s_bf T := rfl
theorem e_s_bf_le (T : St) (v : Nat → Int32) : s_bf (u_le T v) = s_bf T := rfl
theorem e_s_bf_bd (T : St) (v : Nat → Int32) : s_bf (u_bd T v) = s_bf T := rfl
theorem e_s_bf_du (T : St) (v : Nat → Int32) : s_bf (u_du T v) = s_bf T := rfl
theorem e_s_bf_wt (T : St) (v : Nat → Int32) : s_bf (u_wt T v) = s_bf T := rfl
theorem e_s_bf_co (T : St) (v : Nat → Int32) : s_bf (u_co T v) = s_bf T := rfl
theorem es_s_bf (T : St) (v : Int32) : s_bf (u_bf T v) = v := rfl
theorem uu_s_bf (T : St) (v w : Int32) : u_bf (u_bf T v) w = u_bf T w := rfl
theorem e_s_bt_st (T : St) (v : Int32) : s_bt (u_st T v) = s_bt T := rfl
theorem e_s_bt_va (T : St) (v : Int32) : s_bt (u_va T v) = s_bt T := rfl
theorem e_s_bt_sd (T : St) (v : Int32) : s_bt (u_sd T v) = s_bt T := rfl
theorem e_s_bt_bi (T : St) (v : Int32) : s_bt (u_bi T v) = s_bt T := rfl
theorem e_s_bt_wa (T : St) (v : Int32) : s_bt (u_wa T v) = s_bt T := rfl
theorem e_s_bt_he (T : St) (v : Int32) : s_bt (u_he T v) = s_bt T := rfl
theorem e_s_bt_bf (T : St) (v : Int32) : s_bt (u_bf T v) = s_bt T := rfl
theorem e_s_bt_cm (T : St) (v : Int32) : s_bt (u_cm T v) = s_bt T := rfl
theorem e_s_bt_cr (T : St) (v : Int32) : s_bt (u_cr T v) = s_bt T := rfl
theorem e_s_bt_sc (T : St) (v : Nat → Int32) : s_bt (u_sc T v) = s_bt T := rfl
theorem e_s_bt_wy (T : St) (v : Nat → Int32) : s_bt (u_wy T v) = s_bt T := rfl
theorem e_s_bt_wi (T : St) (v : Nat → Int32) : s_bt (u_wi T v) = s_bt T := rfl
theorem e_s_bt_ki (T : St) (v : Nat → Int32) : s_bt (u_ki T v) = s_bt T := rfl
theorem e_s_bt_so (T : St) (v : Nat → Int32) : s_bt (u_so T v) = s_bt T := rfl
theorem e_s_bt_li (T : St) (v : Nat → Int32) : s_bt (u_li T v) = s_bt T := rfl
theorem e_s_bt_sv (T : St) (v : Nat → Int32) : s_bt (u_sv T v) = s_bt T := rfl
theorem e_s_bt_ss (T : St) (v : Nat → Int32) : s_bt (u_ss T v) = s_bt T := rfl
theorem e_s_bt_sh (T : St) (v : Nat → Int32) : s_bt (u_sh T v) = s_bt T := rfl
theorem e_s_bt_sm (T : St) (v : Nat → Int32) : s_bt (u_sm T v) = s_bt T := rfl
theorem e_s_bt_le (T : St) (v : Nat → Int32) : s_bt (u_le T v) = s_bt T := rfl
theorem e_s_bt_bd (T : St) (v : Nat → Int32) : s_bt (u_bd T v) = s_bt T := rfl
theorem e_s_bt_du (T : St) (v : Nat → Int32) : s_bt (u_du T v) = s_bt T := rfl
theorem e_s_bt_wt (T : St) (v : Nat → Int32) : s_bt (u_wt T v) = s_bt T := rfl
theorem e_s_bt_co (T : St) (v : Nat → Int32) : s_bt (u_co T v) = s_bt T := rfl
theorem es_s_bt (T : St) (v : Int32) : s_bt (u_bt T v) = v := rfl
theorem uu_s_bt (T : St) (v w : Int32) : u_bt (u_bt T v) w = u_bt T w := rfl
theorem e_s_cm_st (T : St) (v : Int32) : s_cm (u_st T v) = s_cm T := rfl
theorem e_s_cm_va (T : St) (v : Int32) : s_cm (u_va T v) = s_cm T := rfl
theorem e_s_cm_sd (T : St) (v : Int32) : s_cm (u_sd T v) = s_cm T := rfl
theorem e_s_cm_bi (T : St) (v : Int32) : s_cm (u_bi T v) = s_cm T := rfl
theorem e_s_cm_wa (T : St) (v : Int32) : s_cm (u_wa T v) = s_cm T := rfl
theorem e_s_cm_he (T : St) (v : Int32) : s_cm (u_he T v) = s_cm T := rfl
theorem e_s_cm_bf (T : St) (v : Int32) : s_cm (u_bf T v) = s_cm T := rfl
theorem e_s_cm_bt (T : St) (v : Int32) : s_cm (u_bt T v) = s_cm T := rfl
theorem e_s_cm_cr (T : St) (v : Int32) : s_cm (u_cr T v) = s_cm T := rfl
theorem e_s_cm_sc (T : St) (v : Nat → Int32) : s_cm (u_sc T v) = s_cm T := rfl
theorem e_s_cm_wy (T : St) (v : Nat → Int32) : s_cm (u_wy T v) = s_cm T := rfl
theorem e_s_cm_wi (T : St) (v : Nat → Int32) : s_cm (u_wi T v) = s_cm T := rfl
theorem e_s_cm_ki (T : St) (v : Nat → Int32) : s_cm (u_ki T v) = s_cm T := rfl
theorem e_s_cm_so (T : St) (v : Nat → Int32) : s_cm (u_so T v) = s_cm T := rfl
theorem e_s_cm_li (T : St) (v : Nat → Int32) : s_cm (u_li T v) = s_cm T := rfl
theorem e_s_cm_sv (T : St) (v : Nat → Int32) : s_cm (u_sv T v) = s_cm T := rfl
theorem e_s_cm_ss (T : St) (v : Nat → Int32) : s_cm (u_ss T v) = s_cm T := rfl
theorem e_s_cm_sh (T : St) (v : Nat → Int32) : s_cm (u_sh T v) = s_cm T := rfl
theorem e_s_cm_sm (T : St) (v : Nat → Int32) : s_cm (u_sm T v) = s_cm T := rfl
theorem e_s_cm_le (T : St) (v : Nat → Int32) : s_cm (u_le T v) = s_cm T := rfl
theorem e_s_cm_bd (T : St) (v : Nat → Int32) : s_cm (u_bd T v) = s_cm T := rfl
theorem e_s_cm_du (T : St) (v : Nat → Int32) : s_cm (u_du T v) = s_cm T := rfl
theorem e_s_cm_wt (T : St) (v : Nat → Int32) : s_cm (u_wt T v) = s_cm T := rfl
theorem e_s_cm_co (T : St) (v : Nat → Int32) : s_cm (u_co T v) = s_cm T := rfl
theorem es_s_cm (T : St) (v : Int32) : s_cm (u_cm T v) = v := rfl
theorem uu_s_cm (T : St) (v w : Int32) : u_cm (u_cm T v) w = u_cm T w := rfl
theorem e_s_cr_st (T : St) (v : Int32) : s_cr (u_st T v) = s_cr T := rfl
theorem e_s_cr_va (T : St) (v : Int32) : s_cr (u_va T v) = s_cr T := rfl
theorem e_s_cr_sd (T : St) (v : Int32) : s_cr (u_sd T v) = s_cr T := rfl
theorem e_s_cr_bi (T : St) (v : Int32) : s_cr (u_bi T v) = s_cr T := rfl
theorem e_s_cr_wa (T : St) (v : Int32) : s_cr (u_wa T v) = s_cr T := rfl
theorem e_s_cr_he (T : St) (v : Int32) : s_cr (u_he T v) = s_cr T := rfl
theorem e_s_cr_bf (T : St) (v : Int32) : s_cr (u_bf T v) = s_cr T := rfl
theorem e_s_cr_bt (T : St) (v : Int32) : s_cr (u_bt T v) = s_cr T := rfl
theorem e_s_cr_cm (T : St) (v : Int32) : s_cr (u_cm T v) = s_cr T := rfl
theorem e_s_cr_sc (T : St) (v : Nat → Int32) : s_cr (u_sc T v) = s_cr T := rfl
theorem e_s_cr_wy (T : St) (v : Nat → Int32) : s_cr (u_wy T v) = s_cr T := rfl
theorem e_s_cr_wi (T : St) (v : Nat → Int32) : s_cr (u_wi T v) = s_cr T := rfl
theorem e_s_cr_ki (T : St) (v : Nat → Int32) : s_cr (u_ki T v) = s_cr T := rfl
theorem e_s_cr_so (T : St) (v : Nat → Int32) : s_cr (u_so T v) = s_cr T := rfl
theorem e_s_cr_li (T : St) (v : Nat → Int32) : s_cr (u_li T v) = s_cr T := rfl
theorem e_s_cr_sv (T : St) (v : Nat → Int32) : s_cr (u_sv T v) = s_cr T := rfl
theorem e_s_cr_ss (T : St) (v : Nat → Int32) : s_cr (u_ss T v) = s_cr T := rfl
theorem e_s_cr_sh (T : St) (v : Nat → Int32) : s_cr (u_sh T v) = s_cr T := rfl
theorem e_s_cr_sm (T : St) (v : Nat → Int32) : s_cr (u_sm T v) = s_cr T := rfl
theorem e_s_cr_le (T : St) (v : Nat → Int32) : s_cr (u_le T v) = s_cr T := rfl
theorem e_s_cr_bd (T : St) (v : Nat → Int32) : s_cr (u_bd T v) = s_cr T := rfl
theorem e_s_cr_du (T : St) (v : Nat → Int32) : s_cr (u_du T v) = s_cr T := rfl
theorem e_s_cr_wt (T : St) (v : Nat → Int32) : s_cr (u_wt T v) = s_cr T := rfl
theorem e_s_cr_co (T : St) (v : Nat → Int32) : s_cr (u_co T v) = s_cr T := rfl
theorem es_s_cr (T : St) (v : Int32) : s_cr (u_cr T v) = v := rfl
theorem uu_s_cr (T : St) (v w : Int32) : u_cr (u_cr T v) w = u_cr T w := rfl
theorem e_s_sc_st (T : St) (v : Int32) : s_sc (u_st T v) = s_sc T := rfl
theorem e_s_sc_va (T : St) (v : Int32) : s_sc (u_va T v) = s_sc T := rfl
theorem e_s_sc_sd (T : St) (v : Int32) : s_sc (u_sd T v) = s_sc T := rfl
theorem e_s_sc_bi (T : St) (v : Int32) : s_sc (u_bi T v) = s_sc T := rfl
theorem e_s_sc_wa (T : St) (v : Int32) : s_sc (u_wa T v) = s_sc T := rfl
theorem e_s_sc_he (T : St) (v : Int32) : s_sc (u_he T v) = s_sc T := rfl
theorem e_s_sc_bf (T : St) (v : Int32) : s_sc (u_bf T v) = s_sc T := rfl
theorem e_s_sc_bt (T : St) (v : Int32) : s_sc (u_bt T v) = s_sc T := rfl
theorem e_s_sc_cm (T : St) (v : Int32) : s_sc (u_cm T v) = s_sc T := rfl
theorem e_s_sc_cr (T : St) (v : Int32) : s_sc (u_cr T v) = s_sc T := rfl
theorem e_s_sc_wy (T : St) (v : Nat → Int32) : s_sc (u_wy T v) = s_sc T := rfl
theorem e_s_sc_wi (T : St) (v : Nat → Int32) : s_sc (u_wi T v) = s_sc T := rfl
theorem e_s_sc_ki (T : St) (v : Nat → Int32) : s_sc (u_ki T v) = s_sc T := rfl
theorem e_s_sc_so (T : St) (v : Nat → Int32) : s_sc (u_so T v) = s_sc T := rfl
theorem e_s_sc_li (T : St) (v : Nat → Int32) : s_sc (u_li T v) = s_sc T := rfl
theorem e_s_sc_sv (T : St) (v : Nat → Int32) : s_sc (u_sv T v) = s_sc T := rfl
theorem e_s_sc_ss (T : St) (v : Nat → Int32) : s_sc (u_ss T v) = s_sc T := rfl
theorem e_s_sc_sh (T : St) (v : Nat → Int32) : s_sc (u_sh T v) = s_sc T := rfl
theorem e_s_sc_sm (T : St) (v : Nat → Int32) : s_sc (u_sm T v) = s_sc T := rfl
theorem e_s_sc_le (T : St) (v : Nat → Int32) : s_sc (u_le T v) = s_sc T := rfl
theorem e_s_sc_bd (T : St) (v : Nat → Int32) : s_sc (u_bd T v) = s_sc T := rfl
theorem e_s_sc_du (T : St) (v : Nat → Int32) : s_sc (u_du T v) = s_sc T := rfl
theorem e_s_sc_wt (T : St) (v : Nat → Int32) : s_sc (u_wt T v) = s_sc T := rfl
theorem e_s_sc_co (T : St) (v : Nat → Int32) : s_sc (u_co T v) = s_sc T := rfl
theorem es_s_sc (T : St) (v : Nat → Int32) : s_sc (u_sc T v) = v := rfl
theorem uu_s_sc (T : St) (v w : Nat → Int32) : u_sc (u_sc T v) w = u_sc T w := rfl
theorem e_s_wy_st (T : St) (v : Int32) : s_wy (u_st T v) = s_wy T := rfl
theorem e_s_wy_va (T : St) (v : Int32) : s_wy (u_va T v) = s_wy T := rfl
theorem e_s_wy_sd (T : St) (v : Int32) : s_wy (u_sd T v) = s_wy T := rfl
theorem e_s_wy_bi (T : St) (v : Int32) : s_wy (u_bi T v) = s_wy T := rfl
theorem e_s_wy_wa (T : St) (v : Int32) : s_wy (u_wa T v) = s_wy T := rfl
theorem e_s_wy_he (T : St) (v : Int32) : s_wy (u_he T v) = s_wy T := rfl
theorem e_s_wy_bf (T : St) (v : Int32) : s_wy (u_bf T v) = s_wy T := rfl
theorem e_s_wy_bt (T : St) (v : Int32) : s_wy (u_bt T v) = s_wy T := rfl
theorem e_s_wy_cm (T : St) (v : Int32) : s_wy (u_cm T v) = s_wy T := rfl
theorem e_s_wy_cr (T : St) (v : Int32) : s_wy (u_cr T v) = s_wy T := rfl
theorem e_s_wy_sc (T : St) (v : Nat → Int32) : s_wy (u_sc T v) = s_wy T := rfl
theorem e_s_wy_wi (T : St) (v : Nat → Int32) : s_wy (u_wi T v) = s_wy T := rfl
theorem e_s_wy_ki (T : St) (v : Nat → Int32) : s_wy (u_ki T v) = s_wy T := rfl
theorem e_s_wy_so (T : St) (v : Nat → Int32) : s_wy (u_so T v) = s_wy T := rfl
theorem e_s_wy_li (T : St) (v : Nat → Int32) : s_wy (u_li T v) = s_wy T := rfl
theorem e_s_wy_sv (T : St) (v : Nat → Int32) : s_wy (u_sv T v) = s_wy T := rfl
theorem e_s_wy_ss (T : St) (v : Nat → Int32) : s_wy (u_ss T v) = s_wy T := rfl
theorem e_s_wy_sh (T : St) (v : Nat → Int32) : s_wy (u_sh T v) = s_wy T := rfl
theorem e_s_wy_sm (T : St) (v : Nat → Int32) : s_wy (u_sm T v) = s_wy T := rfl
theorem e_s_wy_le (T : St) (v : Nat → Int32) : s_wy (u_le T v) = s_wy T := rfl
theorem e_s_wy_bd (T : St) (v : Nat → Int32) : s_wy (u_bd T v) = s_wy T := rfl
theorem e_s_wy_du (T : St) (v : Nat → Int32) : s_wy (u_du T v) = s_wy T := rfl
theorem e_s_wy_wt (T : St) (v : Nat → Int32) : s_wy (u_wt T v) = s_wy T := rfl
theorem e_s_wy_co (T : St) (v : Nat → Int32) : s_wy (u_co T v) = s_wy T := rfl
theorem es_s_wy (T : St) (v : Nat → Int32) : s_wy (u_wy T v) = v := rfl
theorem uu_s_wy (T : St) (v w : Nat → Int32) : u_wy (u_wy T v) w = u_wy T w := rfl
theorem e_s_wi_st (T : St) (v : Int32) : s_wi (u_st T v) = s_wi T := rfl
theorem e_s_wi_va (T : St) (v : Int32) : s_wi (u_va T v) = s_wi T := rfl
theorem e_s_wi_sd (T : St) (v : Int32) : s_wi (u_sd T v) = s_wi T := rfl
theorem e_s_wi_bi (T : St) (v : Int32) : s_wi (u_bi T v) = s_wi T := rfl
theorem e_s_wi_wa (T : St) (v : Int32) : s_wi (u_wa T v) = s_wi T := rfl
theorem e_s_wi_he (T : St) (v : Int32) : s_wi (u_he T v) = s_wi T := rfl
theorem e_s_wi_bf (T : St) (v : Int32) : s_wi (u_bf T v) = s_wi T := rfl
theorem e_s_wi_bt (T : St) (v : Int32) : s_wi (u_bt T v) = s_wi T := rfl
theorem e_s_wi_cm (T : St) (v : Int32) : s_wi (u_cm T v) = s_wi T := rfl
theorem e_s_wi_cr (T : St) (v : Int32) : s_wi (u_cr T v) = s_wi T := rfl
theorem e_s_wi_sc (T : St) (v : Nat → Int32) : s_wi (u_sc T v) = s_wi T := rfl
theorem e_s_wi_wy (T : St) (v : Nat → Int32) : s_wi (u_wy T v) = s_wi T := rfl
theorem e_s_wi_ki (T : St) (v : Nat → Int32) : s_wi (u_ki T v) = s_wi T := rfl
theorem e_s_wi_so (T : St) (v : Nat → Int32) : s_wi (u_so T v) = s_wi T := rfl
theorem e_s_wi_li (T : St) (v : Nat → Int32) : s_wi (u_li T v) = s_wi T := rfl
theorem e_s_wi_sv (T : St) (v : Nat → Int32) : s_wi (u_sv T v) = s_wi T := rfl
theorem e_s_wi_ss (T : St) (v : Nat → Int32) : s_wi (u_ss T v) = s_wi T := rfl
theorem e_s_wi_sh (T : St) (v : Nat → Int32) : s_wi (u_sh T v) = s_wi T := rfl
theorem e_s_wi_sm (T : St) (v : Nat → Int32) : s_wi (u_sm T v) = s_wi T := rfl
theorem e_s_wi_le (T : St) (v : Nat → Int32) : s_wi (u_le T v) = s_wi T := rfl
theorem e_s_wi_bd (T : St) (v : Nat → Int32) : s_wi (u_bd T v) = s_wi T := rfl
theorem e_s_wi_du (T : St) (v : Nat → Int32) : s_wi (u_du T v) = s_wi T := rfl
theorem e_s_wi_wt (T : St) (v : Nat → Int32) : s_wi (u_wt T v) = s_wi T := rfl
theorem e_s_wi_co (T : St) (v : Nat → Int32) : s_wi (u_co T v) = s_wi T := rfl
theorem es_s_wi (T : St) (v : Nat → Int32) : s_wi (u_wi T v) = v := rfl
theorem uu_s_wi (T : St) (v w : Nat → Int32) : u_wi (u_wi T v) w = u_wi T w := rfl
theorem e_s_ki_st (T : St) (v : Int32) : s_ki (u_st T v) = s_ki T := rfl
theorem e_s_ki_va (T : St) (v : Int32) : s_ki (u_va T v) = s_ki T := rfl
theorem e_s_ki_sd (T : St) (v : Int32) : s_ki (u_sd T v) = s_ki T := rfl
theorem e_s_ki_bi (T : St) (v : Int32) : s_ki (u_bi T v) = s_ki T := rfl
theorem e_s_ki_wa (T : St) (v : Int32) : s_ki (u_wa T v) = s_ki T := rfl
theorem e_s_ki_he (T : St) (v : Int32) : s_ki (u_he T v) = s_ki T := rfl
theorem e_s_ki_bf (T : St) (v : Int32) : s_ki (u_bf T v) = s_ki T := rfl
theorem e_s_ki_bt (T : St) (v : Int32) : s_ki (u_bt T v) = s_ki T := rfl
theorem e_s_ki_cm (T : St) (v : Int32) : s_ki (u_cm T v) = s_ki T := rfl
theorem e_s_ki_cr (T : St) (v : Int32) : s_ki (u_cr T v) = s_ki T := rfl
theorem e_s_ki_sc (T : St) (v : Nat → Int32) : s_ki (u_sc T v) = s_ki T := rfl
theorem e_s_ki_wy (T : St) (v : Nat → Int32) : s_ki (u_wy T v) = s_ki T := rfl
theorem e_s_ki_wi (T : St) (v : Nat → Int32) : s_ki (u_wi T v) = s_ki T := rfl
theorem e_s_ki_so (T : St) (v : Nat → Int32) : s_ki (u_so T v) = s_ki T := rfl
theorem e_s_ki_li (T : St) (v : Nat → Int32) : s_ki (u_li T v) = s_ki T := rfl
theorem e_s_ki_sv (T : St) (v : Nat → Int32) : s_ki (u_sv T v) = s_ki T := rfl
theorem e_s_ki_ss (T : St) (v : Nat → Int32) : s_ki (u_ss T v) = s_ki T := rfl
theorem e_s_ki_sh (T : St) (v : Nat → Int32) : s_ki (u_sh T v) = s_ki T := rfl
theorem e_s_ki_sm (T : St) (v : Nat → Int32) : s_ki (u_sm T v) = s_ki T := rfl
theorem e_s_ki_le (T : St) (v : Nat → Int32) : s_ki (u_le T v) = s_ki T := rfl
theorem e_s_ki_bd (T : St) (v : Nat → Int32) : s_ki (u_bd T v) = s_ki T := rfl
theorem e_s_ki_du (T : St) (v : Nat → Int32) : s_ki (u_du T v) = s_ki T := rfl
theorem e_s_ki_wt (T : St) (v : Nat → Int32) : s_ki (u_wt T v) = s_ki T := rfl
theorem e_s_ki_co (T : St) (v : Nat → Int32) : s_ki (u_co T v) = s_ki T := rfl
theorem es_s_ki (T : St) (v : Nat → Int32) : s_ki (u_ki T v) = v := rfl
theorem uu_s_ki (T : St) (v w : Nat → Int32) : u_ki (u_ki T v) w = u_ki T w := rfl
theorem e_s_so_st (T : St) (v : Int32) : s_so (u_st T v) = s_so T := rfl
theorem e_s_so_va (T : St) (v : Int32) : s_so (u_va T v) = s_so T := rfl
theorem e_s_so_sd (T : St) (v : Int32) : s_so (u_sd T v) = s_so T := rfl
theorem e_s_so_bi (T : St) (v : Int32) : s_so (u_bi T v) = s_so T := rfl
theorem e_s_so_wa (T : St) (v : Int32) : s_so (u_wa T v) = s_so T := rfl
theorem e_s_so_he (T : St) (v : Int32) : s_so (u_he T v) = s_so T := rfl
theorem e_s_so_bf (T : St) (v : Int32) : s_so (u_bf T v) = s_so T := rfl
theorem e_s_so_bt (T : St) (v : Int32) : s_so (u_bt T v) = s_so T := rfl
theorem e_s_so_cm (T : St) (v : Int32) : s_so (u_cm T v) = s_so T := rfl
theorem e_s_so_cr (T : St) (v : Int32) : s_so (u_cr T v) = s_so T := rfl
theorem e_s_so_sc (T : St) (v : Nat → Int32) : s_so (u_sc T v) = s_so T := rfl
theorem e_s_so_wy (T : St) (v : Nat → Int32) : s_so (u_wy T v) = s_so T := rfl
theorem e_s_so_wi (T : St) (v : Nat → Int32) : s_so (u_wi T v) = s_so T := rfl
theorem e_s_so_ki (T : St) (v : Nat → Int32) : s_so (u_ki T v) = s_so T := rfl
theorem e_s_so_li (T : St) (v : Nat → Int32) : s_so (u_li T v) = s_so T := rfl
theorem e_s_so_sv (T : St) (v : Nat → Int32) : s_so (u_sv T v) = s_so T := rfl
theorem e_s_so_ss (T : St) (v : Nat → Int32) : s_so (u_ss T v) = s_so T := rfl
theorem e_s_so_sh (T : St) (v : Nat → Int32) : s_so (u_sh T v) = s_so T := rfl
theorem e_s_so_sm (T : St) (v : Nat → Int32) : s_so (u_sm T v) = s_so T := rfl
theorem e_s_so_le (T : St) (v : Nat → Int32) : s_so (u_le T v) = s_so T := rfl
theorem e_s_so_bd (T : St) (v : Nat → Int32) : s_so (u_bd T v) = s_so T := rfl
theorem e_s_so_du (T : St) (v : Nat → Int32) : s_so (u_du T v) = s_so T := rfl
theorem e_s_so_wt (T : St) (v : Nat → Int32) : s_so (u_wt T v) = s_so T := rfl
theorem e_s_so_co (T : St) (v : Nat → Int32) : s_so (u_co T v) = s_so T := rfl
theorem es_s_so (T : St) (v : Nat → Int32) : s_so (u_so T v) = v := rfl
theorem uu_s_so (T : St) (v w : Nat → Int32) : u_so (u_so T v) w = u_so T w := rfl
theorem e_s_li_st (T : St) (v : Int32) : s_li (u_st T v) = s_li T := rfl
theorem e_s_li_va (T : St) (v : Int32) : s_li (u_va T v) = s_li T := rfl
theorem e_s_li_sd (T : St) (v : Int32) : s_li (u_sd T v) = s_li T := rfl
theorem e_s_li_bi (T : St) (v : Int32) : s_li (u_bi T v) = s_li T := rfl
theorem e_s_li_wa (T : St) (v : Int32) : s_li (u_wa T v) = s_li T := rfl
theorem e_s_li_he (T : St) (v : Int32) : s_li (u_he T v) = s_li T := rfl
theorem e_s_li_bf (T : St) (v : Int32) : s_li (u_bf T v) = s_li T := rfl
theorem e_s_li_bt (T : St) (v : Int32) : s_li (u_bt T v) = s_li T := rfl
theorem e_s_li_cm (T : St) (v : Int32) : s_li (u_cm T v) = s_li T := rfl
theorem e_s_li_cr (T : St) (v : Int32) : s_li (u_cr T v) = s_li T := rfl
theorem e_s_li_sc (T : St) (v : Nat → Int32) : s_li (u_sc T v) = s_li T := rfl
theorem e_s_li_wy (T : St) (v : Nat → Int32) : s_li (u_wy T v) = s_li T := rfl
theorem e_s_li_wi (T : St) (v : Nat → Int32) : s_li (u_wi T v) = s_li T := rfl
theorem e_s_li_ki (T : St) (v : Nat → Int32) : s_li (u_ki T v) = s_li T := rfl
theorem e_s_li_so (T : St) (v : Nat → Int32) : s_li (u_so T v) = s_li T := rfl
theorem e_s_li_sv (T : St) (v : Nat → Int32) : s_li (u_sv T v) = s_li T := rfl
theorem e_s_li_ss (T : St) (v : Nat → Int32) : s_li (u_ss T v) = s_li T := rfl
theorem e_s_li_sh (T : St) (v : Nat → Int32) : s_li (u_sh T v) = s_li T := rfl
theorem e_s_li_sm (T : St) (v : Nat → Int32) : s_li (u_sm T v) = s_li T := rfl
theorem e_s_li_le (T : St) (v : Nat → Int32) : s_li (u_le T v) = s_li T := rfl
theorem e_s_li_bd (T : St) (v : Nat → Int32) : s_li (u_bd T v) = s_li T := rfl
theorem e_s_li_du (T : St) (v : Nat → Int32) : s_li (u_du T v) = s_li T := rfl
theorem e_s_li_wt (T : St) (v : Nat → Int32) : s_li (u_wt T v) = s_li T := rfl
theorem e_s_li_co (T : St) (v : Nat → Int32) : s_li (u_co T v) = s_li T := rfl
theorem es_s_li (T : St) (v : Nat → Int32) : s_li (u_li T v) = v := rfl
theorem uu_s_li (T : St) (v w : Nat → Int32) : u_li (u_li T v) w = u_li T w := rfl
theorem e_s_sv_st (T : St) (v : Int32) : s_sv (u_st T v) = s_sv T := rfl
theorem e_s_sv_va (T : St) (v : Int32) : s_sv (u_va T v) = s_sv T := rfl
theorem e_s_sv_sd (T : St) (v : Int32) : s_sv (u_sd T v) = s_sv T := rfl
theorem e_s_sv_bi (T : St) (v : Int32) : s_sv (u_bi T v) = s_sv T := rfl
theorem e_s_sv_wa (T : St) (v : Int32) : s_sv (u_wa T v) = s_sv T := rfl
theorem e_s_sv_he (T : St) (v : Int32) : s_sv (u_he T v) = s_sv T := rfl
theorem e_s_sv_bf (T : St) (v : Int32) : s_sv (u_bf T v) = s_sv T := rfl
theorem e_s_sv_bt (T : St) (v : Int32) : s_sv (u_bt T v) = s_sv T := rfl
theorem e_s_sv_cm (T : St) (v : Int32) : s_sv (u_cm T v) = s_sv T := rfl
theorem e_s_sv_cr (T : St) (v : Int32) : s_sv (u_cr T v) = s_sv T := rfl
theorem e_s_sv_sc (T : St) (v : Nat → Int32) : s_sv (u_sc T v) = s_sv T := rfl
theorem e_s_sv_wy (T : St) (v : Nat → Int32) : s_sv (u_wy T v) = s_sv T := rfl
theorem e_s_sv_wi (T : St) (v : Nat → Int32) : s_sv (u_wi T v) = s_sv T := rfl
theorem e_s_sv_ki (T : St) (v : Nat → Int32) : s_sv (u_ki T v) = s_sv T := rfl
theorem e_s_sv_so (T : St) (v : Nat → Int32) : s_sv (u_so T v) = s_sv T := rfl
theorem e_s_sv_li (T : St) (v : Nat → Int32) : s_sv (u_li T v) = s_sv T := rfl
theorem e_s_sv_ss (T : St) (v : Nat → Int32) : s_sv (u_ss T v) = s_sv T := rfl
theorem e_s_sv_sh (T : St) (v : Nat → Int32) : s_sv (u_sh T v) = s_sv T := rfl
theorem e_s_sv_sm (T : St) (v : Nat → Int32) : s_sv (u_sm T v) = s_sv T := rfl
theorem e_s_sv_le (T : St) (v : Nat → Int32) : s_sv (u_le T v) = s_sv T := rfl
theorem e_s_sv_bd (T : St) (v : Nat → Int32) : s_sv (u_bd T v) = s_sv T := rfl
theorem e_s_sv_du (T : St) (v : Nat → Int32) : s_sv (u_du T v) = s_sv T := rfl
theorem e_s_sv_wt (T : St) (v : Nat → Int32) : s_sv (u_wt T v) = s_sv T := rfl
theorem e_s_sv_co (T : St) (v : Nat → Int32) : s_sv (u_co T v) = s_sv T := rfl
theorem es_s_sv (T : St) (v : Nat → Int32) : s_sv (u_sv T v) = v := rfl
theorem uu_s_sv (T : St) (v w : Nat → Int32) : u_sv (u_sv T v) w = u_sv T w := rfl
theorem e_s_ss_st (T : St) (v : Int32) : s_ss (u_st T v) = s_ss T := rfl
theorem e_s_ss_va (T : St) (v : Int32) : s_ss (u_va T v) = s_ss T := rfl
theorem e_s_ss_sd (T : St) (v : Int32) : s_ss (u_sd T v) = s_ss T := rfl
theorem e_s_ss_bi (T : St) (v : Int32) : s_ss (u_bi T v) = s_ss T := rfl
theorem e_s_ss_wa (T : St) (v : Int32) : s_ss (u_wa T v) = s_ss T := rfl
theorem e_s_ss_he (T : St) (v : Int32) : s_ss (u_he T v) = s_ss T := rfl
theorem e_s_ss_bf (T : St) (v : Int32) : s_ss (u_bf T v) = s_ss T := rfl
theorem e_s_ss_bt (T : St) (v : Int32) : s_ss (u_bt T v) = s_ss T := rfl
theorem e_s_ss_cm (T : St) (v : Int32) : s_ss (u_cm T v) = s_ss T := rfl
theorem e_s_ss_cr (T : St) (v : Int32) : s_ss (u_cr T v) = s_ss T := rfl
theorem e_s_ss_sc (T : St) (v : Nat → Int32) : s_ss (u_sc T v) = s_ss T := rfl
theorem e_s_ss_wy (T : St) (v : Nat → Int32) : s_ss (u_wy T v) = s_ss T := rfl
theorem e_s_ss_wi (T : St) (v : Nat → Int32) : s_ss (u_wi T v) = s_ss T := rfl
theorem e_s_ss_ki (T : St) (v : Nat → Int32) : s_ss (u_ki T v) = s_ss T := rfl
theorem e_s_ss_so (T : St) (v : Nat → Int32) : s_ss (u_so T v) = s_ss T := rfl
theorem e_s_ss_li (T : St) (v : Nat → Int32) : s_ss (u_li T v) = s_ss T := rfl
theorem e_s_ss_sv (T : St) (v : Nat → Int32) : s_ss (u_sv T v) = s_ss T := rfl
theorem e_s_ss_sh (T : St) (v : Nat → Int32) : s_ss (u_sh T v) = s_ss T := rfl
theorem e_s_ss_sm (T : St) (v : Nat → Int32) : s_ss (u_sm T v) = s_ss T := rfl
theorem e_s_ss_le (T : St) (v : Nat → Int32) : s_ss (u_le T v) = s_ss T := rfl
theorem e_s_ss_bd (T : St) (v : Nat → Int32) : s_ss (u_bd T v) = s_ss T := rfl
theorem e_s_ss_du (T : St) (v : Nat → Int32) : s_ss (u_du T v) = s_ss T := rfl
theorem e_s_ss_wt (T : St) (v : Nat → Int32) : s_ss (u_wt T v) = s_ss T := rfl
theorem e_s_ss_co (T : St) (v : Nat → Int32) : s_ss (u_co T v) = s_ss T := rfl
theorem es_s_ss (T : St) (v : Nat → Int32) : s_ss (u_ss T v) = v := rfl
theorem uu_s_ss (T : St) (v w : Nat → Int32) : u_ss (u_ss T v) w = u_ss T w := rfl
theorem e_s_sh_st (T : St) (v : Int32) : s_sh (u_st T v) = s_sh T := rfl
theorem e_s_sh_va (T : St) (v : Int32) : s_sh (u_va T v) = s_sh T := rfl
theorem e_s_sh_sd (T : St) (v : Int32) : s_sh (u_sd T v) = s_sh T := rfl
theorem e_s_sh_bi (T : St) (v : Int32) : s_sh (u_bi T v) = s_sh T := rfl
theorem e_s_sh_wa (T : St) (v : Int32) : s_sh (u_wa T v) = s_sh T := rfl
theorem e_s_sh_he (T : St) (v : Int32) : s_sh (u_he T v) = s_sh T := rfl
theorem e_s_sh_bf (T : St) (v : Int32) : s_sh (u_bf T v) = s_sh T := rfl
theorem e_s_sh_bt (T : St) (v : Int32) : s_sh (u_bt T v) = s_sh T := rfl
theorem e_s_sh_cm (T : St) (v : Int32) : s_sh (u_cm T v) = s_sh T := rfl
theorem e_s_sh_cr (T : St) (v : Int32) : s_sh (u_cr T v) = s_sh T := rfl
theorem e_s_sh_sc (T : St) (v : Nat → Int32) : s_sh (u_sc T v) = s_sh T := rfl
theorem e_s_sh_wy (T : St) (v : Nat → Int32) : s_sh (u_wy T v) = s_sh T := rfl
theorem e_s_sh_wi (T : St) (v : Nat → Int32) : s_sh (u_wi T v) = s_sh T := rfl
theorem e_s_sh_ki (T : St) (v : Nat → Int32) : s_sh (u_ki T v) = s_sh T := rfl
theorem e_s_sh_so (T : St) (v : Nat → Int32) : s_sh (u_so T v) = s_sh T := rfl
theorem e_s_sh_li (T : St) (v : Nat → Int32) : s_sh (u_li T v) = s_sh T := rfl
theorem e_s_sh_sv (T : St) (v : Nat → Int32) : s_sh (u_sv T v) = s_sh T := rfl
theorem e_s_sh_ss (T : St) (v : Nat → Int32) : s_sh (u_ss T v) = s_sh T := rfl
theorem e_s_sh_sm (T : St) (v : Nat → Int32) : s_sh (u_sm T v) = s_sh T := rfl
theorem e_s_sh_le (T : St) (v : Nat → Int32) : s_sh (u_le T v) = s_sh T := rfl
theorem e_s_sh_bd (T : St) (v : Nat → Int32) : s_sh (u_bd T v) = s_sh T := rfl
theorem e_s_sh_du (T : St) (v : Nat → Int32) : s_sh (u_du T v) = s_sh T := rfl
theorem e_s_sh_wt (T : St) (v : Nat → Int32) : s_sh (u_wt T v) = s_sh T := rfl
theorem e_s_sh_co (T : St) (v : Nat → Int32) : s_sh (u_co T v) = s_sh T := rfl
theorem es_s_sh (T : St) (v : Nat → Int32) : s_sh (u_sh T v) = v := rfl
theorem uu_s_sh (T : St) (v w : Nat → Int32) : u_sh (u_sh T v) w = u_sh T w := rfl
theorem e_s_sm_st (T : St) (v : Int32) : s_sm (u_st T v) = s_sm T := rfl
theorem e_s_sm_va (T : St) (v : Int32) : s_sm (u_va T v) = s_sm T := rfl
theorem e_s_sm_sd (T : St) (v : Int32) : s_sm (u_sd T v) = s_sm T := rfl
theorem e_s_sm_bi (T : St) (v : Int32) : s_sm (u_bi T v) = s_sm T := rfl
theorem e_s_sm_wa (T : St) (v : Int32) : s_sm (u_wa T v) = s_sm T := rfl
theorem e_s_sm_he (T : St) (v : Int32) : s_sm (u_he T v) = s_sm T := rfl
theorem e_s_sm_bf (T : St) (v : Int32) : s_sm (u_bf T v) = s_sm T := rfl
theorem e_s_sm_bt (T : St) (v : Int32) : s_sm (u_bt T v) = s_sm T := rfl
theorem e_s_sm_cm (T : St) (v : Int32) : s_sm (u_cm T v) = s_sm T := rfl
theorem e_s_sm_cr (T : St) (v : Int32) : s_sm (u_cr T v) = s_sm T := rfl
theorem e_s_sm_sc (T : St) (v : Nat → Int32) : s_sm (u_sc T v) = s_sm T := rfl
theorem e_s_sm_wy (T : St) (v : Nat → Int32) : s_sm (u_wy T v) = s_sm T := rfl
theorem e_s_sm_wi (T : St) (v : Nat → Int32) : s_sm (u_wi T v) = s_sm T := rfl
theorem e_s_sm_ki (T : St) (v : Nat → Int32) : s_sm (u_ki T v) = s_sm T := rfl
theorem e_s_sm_so (T : St) (v : Nat → Int32) : s_sm (u_so T v) = s_sm T := rfl
theorem e_s_sm_li (T : St) (v : Nat → Int32) : s_sm (u_li T v) = s_sm T := rfl
theorem e_s_sm_sv (T : St) (v : Nat → Int32) : s_sm (u_sv T v) = s_sm T := rfl
theorem e_s_sm_ss (T : St) (v : Nat → Int32) : s_sm (u_ss T v) = s_sm T := rfl
theorem e_s_sm_sh (T : St) (v : Nat → Int32) : s_sm (u_sh T v) = s_sm T := rfl
theorem e_s_sm_le (T : St) (v : Nat → Int32) : s_sm (u_le T v) = s_sm T := rfl
theorem e_s_sm_bd (T : St) (v : Nat → Int32) : s_sm (u_bd T v) = s_sm T := rfl
theorem e_s_sm_du (T : St) (v : Nat → Int32) : s_sm (u_du T v) = s_sm T := rfl
theorem e_s_sm_wt (T : St) (v : Nat → Int32) : s_sm (u_wt T v) = s_sm T := rfl
theorem e_s_sm_co (T : St) (v : Nat → Int32) : s_sm (u_co T v) = s_sm T := rfl
theorem es_s_sm (T : St) (v : Nat → Int32) : s_sm (u_sm T v) = v := rfl
theorem uu_s_sm (T : St) (v w : Nat → Int32) : u_sm (u_sm T v) w = u_sm T w := rfl
theorem e_s_le_st (T : St) (v : Int32) : s_le (u_st T v) = s_le T := rfl
theorem e_s_le_va (T : St) (v : Int32) : s_le (u_va T v) = s_le T := rfl
theorem e_s_le_sd (T : St) (v : Int32) : s_le (u_sd T v) = s_le T := rfl
theorem e_s_le_bi (T : St) (v : Int32) : s_le (u_bi T v) = s_le T := rfl
theorem e_s_le_wa (T : St) (v : Int32) : s_le (u_wa T v) = s_le T := rfl
theorem e_s_le_he (T : St) (v : Int32) : s_le (u_he T v) = s_le T := rfl
theorem e_s_le_bf (T : St) (v : Int32) : s_le (u_bf T v) = s_le T := rfl
theorem e_s_le_bt (T : St) (v : Int32) : s_le (u_bt T v) = s_le T := rfl
theorem e_s_le_cm (T : St) (v : Int32) : s_le (u_cm T v) = s_le T := rfl
theorem e_s_le_cr (T : St) (v : Int32) : s_le (u_cr T v) = s_le T := rfl
theorem e_s_le_sc (T : St) (v : Nat → Int32) : s_le (u_sc T v) = s_le T := rfl
theorem e_s_le_wy (T : St) (v : Nat → Int32) : s_le (u_wy T v) = s_le T := rfl
theorem e_s_le_wi (T : St) (v : Nat → Int32) : s_le (u_wi T v) = s_le T := rfl
theorem e_s_le_ki (T : St) (v : Nat → Int32) : s_le (u_ki T v) = s_le T := rfl
theorem e_s_le_so (T : St) (v : Nat → Int32) : s_le (u_so T v) = s_le T := rfl
theorem e_s_le_li (T : St) (v : Nat → Int32) : s_le (u_li T v) = s_le T := rfl
theorem e_s_le_sv (T : St) (v : Nat → Int32) : s_le (u_sv T v) = s_le T := rfl
theorem e_s_le_ss (T : St) (v : Nat → Int32) : s_le (u_ss T v) = s_le T := rfl
theorem e_s_le_sh (T : St) (v : Nat → Int32) : s_le (u_sh T v) = s_le T := rfl
theorem e_s_le_sm (T : St) (v : Nat → Int32) : s_le (u_sm T v) = s_le T := rfl
theorem e_s_le_bd (T : St) (v : Nat → Int32) : s_le (u_bd T v) = s_le T := rfl
theorem e_s_le_du (T : St) (v : Nat → Int32) : s_le (u_du T v) = s_le T := rfl
theorem e_s_le_wt (T : St) (v : Nat → Int32) : s_le (u_wt T v) = s_le T := rfl
theorem e_s_le_co (T : St) (v : Nat → Int32) : s_le (u_co T v) = s_le T := rfl
theorem es_s_le (T : St) (v : Nat → Int32) : s_le (u_le T v) = v := rfl
theorem uu_s_le (T : St) (v w : Nat → Int32) : u_le (u_le T v) w = u_le T w := rfl
theorem e_s_bd_st (T : St) (v : Int32) : s_bd (u_st T v) = s_bd T := rfl
theorem e_s_bd_va (T : St) (v : Int32) : s_bd (u_va T v) = s_bd T := rfl
theorem e_s_bd_sd (T : St) (v : Int32) : s_bd (u_sd T v) = s_bd T := rfl
theorem e_s_bd_bi (T : St) (v : Int32) : s_bd (u_bi T v) = s_bd T := rfl
theorem e_s_bd_wa (T : St) (v : Int32) : s_bd (u_wa T v) = s_bd T := rfl
theorem e_s_bd_he (T : St) (v : Int32) : s_bd (u_he T v) = s_bd T := rfl
theorem e_s_bd_bf (T : St) (v : Int32) : s_bd (u_bf T v) = s_bd T := rfl
theorem e_s_bd_bt (T : St) (v : Int32) : s_bd (u_bt T v) = s_bd T := rfl
theorem e_s_bd_cm (T : St) (v : Int32) : s_bd (u_cm T v) = s_bd T := rfl
theorem e_s_bd_cr (T : St) (v : Int32) : s_bd (u_cr T v) = s_bd T := rfl
theorem e_s_bd_sc (T : St) (v : Nat → Int32) : s_bd (u_sc T v) = s_bd T := rfl
theorem e_s_bd_wy (T : St) (v : Nat → Int32) : s_bd (u_wy T v) = s_bd T := rfl
theorem e_s_bd_wi (T : St) (v : Nat → Int32) : s_bd (u_wi T v) = s_bd T := rfl
theorem e_s_bd_ki (T : St) (v : Nat → Int32) : s_bd (u_ki T v) = s_bd T := rfl
theorem e_s_bd_so (T : St) (v : Nat → Int32) : s_bd (u_so T v) = s_bd T := rfl
theorem e_s_bd_li (T : St) (v : Nat → Int32) : s_bd (u_li T v) = s_bd T := rfl
theorem e_s_bd_sv (T : St) (v : Nat → Int32) : s_bd (u_sv T v) = s_bd T := rfl
theorem e_s_bd_ss (T : St) (v : Nat → Int32) : s_bd (u_ss T v) = s_bd T := rfl
theorem e_s_bd_sh (T : St) (v : Nat → Int32) : s_bd (u_sh T v) = s_bd T := rfl
theorem e_s_bd_sm (T : St) (v : Nat → Int32) : s_bd (u_sm T v) = s_bd T := rfl
theorem e_s_bd_le (T : St) (v : Nat → Int32) : s_bd (u_le T v) = s_bd T := rfl
theorem e_s_bd_du (T : St) (v : Nat → Int32) : s_bd (u_du T v) = s_bd T := rfl
theorem e_s_bd_wt (T : St) (v : Nat → Int32) : s_bd (u_wt T v) = s_bd T := rfl
theorem e_s_bd_co (T : St) (v : Nat → Int32) : s_bd (u_co T v) = s_bd T := rfl
theorem es_s_bd (T : St) (v : Nat → Int32) : s_bd (u_bd T v) = v := rfl
theorem uu_s_bd (T : St) (v w : Nat → Int32) : u_bd (u_bd T v) w = u_bd T w := rfl
theorem e_s_du_st (T : St) (v : Int32) : s_du (u_st T v) = s_du T := rfl
theorem e_s_du_va (T : St) (v : Int32) : s_du (u_va T v) = s_du T := rfl
theorem e_s_du_sd (T : St) (v : Int32) : s_du (u_sd T v) = s_du T := rfl
theorem e_s_du_bi (T : St) (v : Int32) : s_du (u_bi T v) = s_du T := rfl
theorem e_s_du_wa (T : St) (v : Int32) : s_du (u_wa T v) = s_du T := rfl
theorem e_s_du_he (T : St) (v : Int32) : s_du (u_he T v) = s_du T := rfl
theorem e_s_du_bf (T : St) (v : Int32) : s_du (u_bf T v) = s_du T := rfl
theorem e_s_du_bt (T : St) (v : Int32) : s_du (u_bt T v) = s_du T := rfl
theorem e_s_du_cm (T : St) (v : Int32) : s_du (u_cm T v) = s_du T := rfl
theorem e_s_du_cr (T : St) (v : Int32) : s_du (u_cr T v) = s_du T := rfl
theorem e_s_du_sc (T : St) (v : Nat → Int32) : s_du (u_sc T v) = s_du T := rfl
theorem e_s_du_wy (T : St) (v : Nat → Int32) : s_du (u_wy T v) = s_du T := rfl
theorem e_s_du_wi (T : St) (v : Nat → Int32) : s_du (u_wi T v) = s_du T := rfl
theorem e_s_du_ki (T : St) (v : Nat → Int32) : s_du (u_ki T v) = s_du T := rfl
theorem e_s_du_so (T : St) (v : Nat → Int32) : s_du (u_so T v) = s_du T := rfl
theorem e_s_du_li (T : St) (v : Nat → Int32) : s_du (u_li T v) = s_du T := rfl
theorem e_s_du_sv (T : St) (v : Nat → Int32) : s_du (u_sv T v) = s_du T := rfl
theorem e_s_du_ss (T : St) (v : Nat → Int32) : s_du (u_ss T v) = s_du T := rfl
theorem e_s_du_sh (T : St) (v : Nat → Int32) : s_du (u_sh T v) = s_du T := rfl
theorem e_s_du_sm (T : St) (v : Nat → Int32) : s_du (u_sm T v) = s_du T := rfl
theorem e_s_du_le (T : St) (v : Nat → Int32) : s_du (u_le T v) = s_du T := rfl
theorem e_s_du_bd (T : St) (v : Nat → Int32) : s_du (u_bd T v) = s_du T := rfl
theorem e_s_du_wt (T : St) (v : Nat → Int32) : s_du (u_wt T v) = s_du T := rfl
theorem e_s_du_co (T : St) (v : Nat → Int32) : s_du (u_co T v) = s_du T := rfl
theorem es_s_du (T : St) (v : Nat → Int32) : s_du (u_du T v) = v := rfl
theorem uu_s_du (T : St) (v w : Nat → Int32) : u_du (u_du T v) w = u_du T w := rfl
theorem e_s_wt_st (T : St) (v : Int32) : s_wt (u_st T v) = s_wt T := rfl
theorem e_s_wt_va (T : St) (v : Int32) : s_wt (u_va T v) = s_wt T := rfl
theorem e_s_wt_sd (T : St) (v : Int32) : s_wt (u_sd T v) = s_wt T := rfl
theorem e_s_wt_bi (T : St) (v : Int32) : s_wt (u_bi T v) = s_wt T := rfl
theorem e_s_wt_wa (T : St) (v : Int32) : s_wt (u_wa T v) = s_wt T := rfl
theorem e_s_wt_he (T : St) (v : Int32) : s_wt (u_he T v) = s_wt T := rfl
theorem e_s_wt_bf (T : St) (v : Int32) : s_wt (u_bf T v) = s_wt T := rfl
theorem e_s_wt_bt (T : St) (v : Int32) : s_wt (u_bt T v) = s_wt T := rfl
theorem e_s_wt_cm (T : St) (v : Int32) : s_wt (u_cm T v) = s_wt T := rfl
theorem e_s_wt_cr (T : St) (v : Int32) : s_wt (u_cr T v) = s_wt T := rfl
theorem e_s_wt_sc (T : St) (v : Nat → Int32) : s_wt (u_sc T v) = s_wt T := rfl
theorem e_s_wt_wy (T : St) (v : Nat → Int32) : s_wt (u_wy T v) = s_wt T := rfl
theorem e_s_wt_wi (T : St) (v : Nat → Int32) : s_wt (u_wi T v) = s_wt T := rfl
theorem e_s_wt_ki (T : St) (v : Nat → Int32) : s_wt (u_ki T v) = s_wt T := rfl
theorem e_s_wt_so (T : St) (v : Nat → Int32) : s_wt (u_so T v) = s_wt T := rfl
theorem e_s_wt_li (T : St) (v : Nat → Int32) : s_wt (u_li T v) = s_wt T := rfl
theorem e_s_wt_sv (T : St) (v : Nat → Int32) : s_wt (u_sv T v) = s_wt T := rfl
theorem e_s_wt_ss (T : St) (v : Nat → Int32) : s_wt (u_ss T v) = s_wt T := rfl
theorem e_s_wt_sh (T : St) (v : Nat → Int32) : s_wt (u_sh T v) = s_wt T := rfl
theorem e_s_wt_sm (T : St) (v : Nat → Int32) : s_wt (u_sm T v) = s_wt T := rfl
theorem e_s_wt_le (T : St) (v : Nat → Int32) : s_wt (u_le T v) = s_wt T := rfl
theorem e_s_wt_bd (T : St) (v : Nat → Int32) : s_wt (u_bd T v) = s_wt T := rfl
theorem e_s_wt_du (T : St) (v : Nat → Int32) : s_wt (u_du T v) = s_wt T := rfl
theorem e_s_wt_co (T : St) (v : Nat → Int32) : s_wt (u_co T v) = s_wt T := rfl
theorem es_s_wt (T : St) (v : Nat → Int32) : s_wt (u_wt T v) = v := rfl
theorem uu_s_wt (T : St) (v w : Nat → Int32) : u_wt (u_wt T v) w = u_wt T w := rfl
theorem e_s_co_st (T : St) (v : Int32) : s_co (u_st T v) = s_co T := rfl
theorem e_s_co_va (T : St) (v : Int32) : s_co (u_va T v) = s_co T := rfl
theorem e_s_co_sd (T : St) (v : Int32) : s_co (u_sd T v) = s_co T := rfl
theorem e_s_co_bi (T : St) (v : Int32) : s_co (u_bi T v) = s_co T := rfl
theorem e_s_co_wa (T : St) (v : Int32) : s_co (u_wa T v) = s_co T := rfl
theorem e_s_co_he (T : St) (v : Int32) : s_co (u_he T v) = s_co T := rfl
theorem e_s_co_bf (T : St) (v : Int32) : s_co (u_bf T v) = s_co T := rfl
theorem e_s_co_bt (T : St) (v : Int32) : s_co (u_bt T v) = s_co T := rfl
theorem e_s_co_cm (T : St) (v : Int32) : s_co (u_cm T v) = s_co T := rfl
theorem e_s_co_cr (T : St) (v : Int32) : s_co (u_cr T v) = s_co T := rfl
theorem e_s_co_sc (T : St) (v : Nat → Int32) : s_co (u_sc T v) = s_co T := rfl
theorem e_s_co_wy (T : St) (v : Nat → Int32) : s_co (u_wy T v) = s_co T := rfl
theorem e_s_co_wi (T : St) (v : Nat → Int32) : s_co (u_wi T v) = s_co T := rfl
theorem e_s_co_ki (T : St) (v : Nat → Int32) : s_co (u_ki T v) = s_co T := rfl
theorem e_s_co_so (T : St) (v : Nat → Int32) : s_co (u_so T v) = s_co T := rfl
theorem e_s_co_li (T : St) (v : Nat → Int32) : s_co (u_li T v) = s_co T := rfl
theorem e_s_co_sv (T : St) (v : Nat → Int32) : s_co (u_sv T v) = s_co T := rfl
theorem e_s_co_ss (T : St) (v : Nat → Int32) : s_co (u_ss T v) = s_co T := rfl
theorem e_s_co_sh (T : St) (v : Nat → Int32) : s_co (u_sh T v) = s_co T := rfl
theorem e_s_co_sm (T : St) (v : Nat → Int32) : s_co (u_sm T v) = s_co T := rfl
theorem e_s_co_le (T : St) (v : Nat → Int32) : s_co (u_le T v) = s_co T := rfl
theorem e_s_co_bd (T : St) (v : Nat → Int32) : s_co (u_bd T v) = s_co T := rfl
theorem e_s_co_du (T : St) (v : Nat → Int32) : s_co (u_du T v) = s_co T := rfl
theorem e_s_co_wt (T : St) (v : Nat → Int32) : s_co (u_wt T v) = s_co T := rfl
theorem es_s_co (T : St) (v : Nat → Int32) : s_co (u_co T v) = v := rfl
theorem uu_s_co (T : St) (v w : Nat → Int32) : u_co (u_co T v) w = u_co T w := rfl
theorem e_x_tn_tk (T : XC) (v : Int32) : x_tn (v_tk T v) = x_tn T := rfl
theorem e_x_tn_tl (T : XC) (v : Int32) : x_tn (v_tl T v) = x_tn T := rfl
theorem e_x_tn_bn (T : XC) (v : Int32) : x_tn (v_bn T v) = x_tn T := rfl
theorem e_x_tn_bk (T : XC) (v : Int32) : x_tn (v_bk T v) = x_tn T := rfl
theorem e_x_tn_bl (T : XC) (v : Int32) : x_tn (v_bl T v) = x_tn T := rfl
theorem e_x_tn_ts (T : XC) (v : Nat → Int32) : x_tn (v_ts T v) = x_tn T := rfl
theorem e_x_tn_th (T : XC) (v : Nat → Int32) : x_tn (v_th T v) = x_tn T := rfl
theorem e_x_tn_bs (T : XC) (v : Nat → Int32) : x_tn (v_bs T v) = x_tn T := rfl
theorem e_x_tn_bh (T : XC) (v : Nat → Int32) : x_tn (v_bh T v) = x_tn T := rfl
theorem es_x_tn (T : XC) (v : Int32) : x_tn (v_tn T v) = v := rfl
theorem uu_x_tn (T : XC) (v w : Int32) : v_tn (v_tn T v) w = v_tn T w := rfl
theorem e_x_tk_tn (T : XC) (v : Int32) : x_tk (v_tn T v) = x_tk T := rfl
theorem e_x_tk_tl (T : XC) (v : Int32) : x_tk (v_tl T v) = x_tk T := rfl
theorem e_x_tk_bn (T : XC) (v : Int32) : x_tk (v_bn T v) = x_tk T := rfl
theorem e_x_tk_bk (T : XC) (v : Int32) : x_tk (v_bk T v) = x_tk T := rfl
theorem e_x_tk_bl (T : XC) (v : Int32) : x_tk (v_bl T v) = x_tk T := rfl
theorem e_x_tk_ts (T : XC) (v : Nat → Int32) : x_tk (v_ts T v) = x_tk T := rfl
theorem e_x_tk_th (T : XC) (v : Nat → Int32) : x_tk (v_th T v) = x_tk T := rfl
theorem e_x_tk_bs (T : XC) (v : Nat → Int32) : x_tk (v_bs T v) = x_tk T := rfl
theorem e_x_tk_bh (T : XC) (v : Nat → Int32) : x_tk (v_bh T v) = x_tk T := rfl
theorem es_x_tk (T : XC) (v : Int32) : x_tk (v_tk T v) = v := rfl
theorem uu_x_tk (T : XC) (v w : Int32) : v_tk (v_tk T v) w = v_tk T w := rfl
theorem e_x_tl_tn (T : XC) (v : Int32) : x_tl (v_tn T v) = x_tl T := rfl
theorem e_x_tl_tk (T : XC) (v : Int32) : x_tl (v_tk T v) = x_tl T := rfl
theorem e_x_tl_bn (T : XC) (v : Int32) : x_tl (v_bn T v) = x_tl T := rfl
theorem e_x_tl_bk (T : XC) (v : Int32) : x_tl (v_bk T v) = x_tl T := rfl
theorem e_x_tl_bl (T : XC) (v : Int32) : x_tl (v_bl T v) = x_tl T := rfl
theorem e_x_tl_ts (T : XC) (v : Nat → Int32) : x_tl (v_ts T v) = x_tl T := rfl
theorem e_x_tl_th (T : XC) (v : Nat → Int32) : x_tl (v_th T v) = x_tl T := rfl
theorem e_x_tl_bs (T : XC) (v : Nat → Int32) : x_tl (v_bs T v) = x_tl T := rfl
theorem e_x_tl_bh (T : XC) (v : Nat → Int32) : x_tl (v_bh T v) = x_tl T := rfl
theorem es_x_tl (T : XC) (v : Int32) : x_tl (v_tl T v) = v := rfl
theorem uu_x_tl (T : XC) (v w : Int32) : v_tl (v_tl T v) w = v_tl T w := rfl
theorem e_x_bn_tn (T : XC) (v : Int32) : x_bn (v_tn T v) = x_bn T := rfl
theorem e_x_bn_tk (T : XC) (v : Int32) : x_bn (v_tk T v) = x_bn T := rfl
theorem e_x_bn_tl (T : XC) (v : Int32) : x_bn (v_tl T v) = x_bn T := rfl
theorem e_x_bn_bk (T : XC) (v : Int32) : x_bn (v_bk T v) = x_bn T := rfl
theorem e_x_bn_bl (T : XC) (v : Int32) : x_bn (v_bl T v) = x_bn T := rfl
theorem e_x_bn_ts (T : XC) (v : Nat → Int32) : x_bn (v_ts T v) = x_bn T := rfl
theorem e_x_bn_th (T : XC) (v : Nat → Int32) : x_bn (v_th T v) = x_bn T := rfl
theorem e_x_bn_bs (T : XC) (v : Nat → Int32) : x_bn (v_bs T v) = x_bn T := rfl
theorem e_x_bn_bh (T : XC) (v : Nat → Int32) : x_bn (v_bh T v) = x_bn T := rfl
theorem es_x_bn (T : XC) (v : Int32) : x_bn (v_bn T v) = v := rfl
theorem uu_x_bn (T : XC) (v w : Int32) : v_bn (v_bn T v) w = v_bn T w := rfl
theorem e_x_bk_tn (T : XC) (v : Int32) : x_bk (v_tn T v) = x_bk T := rfl
theorem e_x_bk_tk (T : XC) (v : Int32) : x_bk (v_tk T v) = x_bk T := rfl
theorem e_x_bk_tl (T : XC) (v : Int32) : x_bk (v_tl T v) = x_bk T := rfl
theorem e_x_bk_bn (T : XC) (v : Int32) : x_bk (v_bn T v) = x_bk T := rfl
theorem e_x_bk_bl (T : XC) (v : Int32) : x_bk (v_bl T v) = x_bk T := rfl
theorem e_x_bk_ts (T : XC) (v : Nat → Int32) : x_bk (v_ts T v) = x_bk T := rfl
theorem e_x_bk_th (T : XC) (v : Nat → Int32) : x_bk (v_th T v) = x_bk T := rfl
theorem e_x_bk_bs (T : XC) (v : Nat → Int32) : x_bk (v_bs T v) = x_bk T := rfl
theorem e_x_bk_bh (T : XC) (v : Nat → Int32) : x_bk (v_bh T v) = x_bk T := rfl
theorem es_x_bk (T : XC) (v : Int32) : x_bk (v_bk T v) = v := rfl
theorem uu_x_bk (T : XC) (v w : Int32) : v_bk (v_bk T v) w = v_bk T w := rfl
theorem e_x_bl_tn (T : XC) (v : Int32) : x_bl (v_tn T v) = x_bl T := rfl
theorem e_x_bl_tk (T : XC) (v : Int32) : x_bl (v_tk T v) = x_bl T := rfl
theorem e_x_bl_tl (T : XC) (v : Int32) : x_bl (v_tl T v) = x_bl T := rfl
theorem e_x_bl_bn (T : XC) (v : Int32) : x_bl (v_bn T v) = x_bl T := rfl
theorem e_x_bl_bk (T : XC) (v : Int32) : x_bl (v_bk T v) = x_bl T := rfl
theorem e_x_bl_ts (T : XC) (v : Nat → Int32) : x_bl (v_ts T v) = x_bl T := rfl
theorem e_x_bl_th (T : XC) (v : Nat → Int32) : x_bl (v_th T v) = x_bl T := rfl
theorem e_x_bl_bs (T : XC) (v : Nat → Int32) : x_bl (v_bs T v) = x_bl T := rfl
theorem e_x_bl_bh (T : XC) (v : Nat → Int32) : x_bl (v_bh T v) = x_bl T := rfl
theorem es_x_bl (T : XC) (v : Int32) : x_bl (v_bl T v) = v := rfl
theorem uu_x_bl (T : XC) (v w : Int32) : v_bl (v_bl T v) w = v_bl T w := rfl
theorem e_x_ts_tn (T : XC) (v : Int32) : x_ts (v_tn T v) = x_ts T := rfl
theorem e_x_ts_tk (T : XC) (v : Int32) : x_ts (v_tk T v) = x_ts T := rfl
theorem e_x_ts_tl (T : XC) (v : Int32) : x_ts (v_tl T v) = x_ts T := rfl
theorem e_x_ts_bn (T : XC) (v : Int32) : x_ts (v_bn T v) = x_ts T := rfl
theorem e_x_ts_bk (T : XC) (v : Int32) : x_ts (v_bk T v) = x_ts T := rfl
theorem e_x_ts_bl (T : XC) (v : Int32) : x_ts (v_bl T v) = x_ts T := rfl
theorem e_x_ts_th (T : XC) (v : Nat → Int32) : x_ts (v_th T v) = x_ts T := rfl
theorem e_x_ts_bs (T : XC) (v : Nat → Int32) : x_ts (v_bs T v) = x_ts T := rfl
theorem e_x_ts_bh (T : XC) (v : Nat → Int32) : x_ts (v_bh T v) = x_ts T := rfl
theorem es_x_ts (T : XC) (v : Nat → Int32) : x_ts (v_ts T v) = v := rfl
theorem uu_x_ts (T : XC) (v w : Nat → Int32) : v_ts (v_ts T v) w = v_ts T w := rfl
theorem e_x_th_tn (T : XC) (v : Int32) : x_th (v_tn T v) = x_th T := rfl
theorem e_x_th_tk (T : XC) (v : Int32) : x_th (v_tk T v) = x_th T := rfl
theorem e_x_th_tl (T : XC) (v : Int32) : x_th (v_tl T v) = x_th T := rfl
theorem e_x_th_bn (T : XC) (v : Int32) : x_th (v_bn T v) = x_th T := rfl
theorem e_x_th_bk (T : XC) (v : Int32) : x_th (v_bk T v) = x_th T := rfl
theorem e_x_th_bl (T : XC) (v : Int32) : x_th (v_bl T v) = x_th T := rfl
theorem e_x_th_ts (T : XC) (v : Nat → Int32) : x_th (v_ts T v) = x_th T := rfl
theorem e_x_th_bs (T : XC) (v : Nat → Int32) : x_th (v_bs T v) = x_th T := rfl
theorem e_x_th_bh (T : XC) (v : Nat → Int32) : x_th (v_bh T v) = x_th T := rfl
theorem es_x_th (T : XC) (v : Nat → Int32) : x_th (v_th T v) = v := rfl
theorem uu_x_th (T : XC) (v w : Nat → Int32) : v_th (v_th T v) w = v_th T w := rfl
theorem e_x_bs_tn (T : XC) (v : Int32) : x_bs (v_tn T v) = x_bs T := rfl
theorem e_x_bs_tk (T : XC) (v : Int32) : x_bs (v_tk T v) = x_bs T := rfl
theorem e_x_bs_tl (T : XC) (v : Int32) : x_bs (v_tl T v) = x_bs T := rfl
theorem e_x_bs_bn (T : XC) (v : Int32) : x_bs (v_bn T v) = x_bs T := rfl
theorem e_x_bs_bk (T : XC) (v : Int32) : x_bs (v_bk T v) = x_bs T := rfl
theorem e_x_bs_bl (T : XC) (v : Int32) : x_bs (v_bl T v) = x_bs T := rfl
theorem e_x_bs_ts (T : XC) (v : Nat → Int32) : x_bs (v_ts T v) = x_bs T := rfl
theorem e_x_bs_th (T : XC) (v : Nat → Int32) : x_bs (v_th T v) = x_bs T := rfl
theorem e_x_bs_bh (T : XC) (v : Nat → Int32) : x_bs (v_bh T v) = x_bs T := rfl
theorem es_x_bs (T : XC) (v : Nat → Int32) : x_bs (v_bs T v) = v := rfl
theorem uu_x_bs (T : XC) (v w : Nat → Int32) : v_bs (v_bs T v) w = v_bs T w := rfl
theorem e_x_bh_tn (T : XC) (v : Int32) : x_bh (v_tn T v) = x_bh T := rfl
theorem e_x_bh_tk (T : XC) (v : Int32) : x_bh (v_tk T v) = x_bh T := rfl
theorem e_x_bh_tl (T : XC) (v : Int32) : x_bh (v_tl T v) = x_bh T := rfl
theorem e_x_bh_bn (T : XC) (v : Int32) : x_bh (v_bn T v) = x_bh T := rfl
theorem e_x_bh_bk (T : XC) (v : Int32) : x_bh (v_bk T v) = x_bh T := rfl
theorem e_x_bh_bl (T : XC) (v : Int32) : x_bh (v_bl T v) = x_bh T := rfl
theorem e_x_bh_ts (T : XC) (v : Nat → Int32) : x_bh (v_ts T v) = x_bh T := rfl
theorem e_x_bh_th (T : XC) (v : Nat → Int32) : x_bh (v_th T v) = x_bh T := rfl
theorem e_x_bh_bs (T : XC) (v : Nat → Int32) : x_bh (v_bs T v) = x_bh T := rfl
theorem es_x_bh (T : XC) (v : Nat → Int32) : x_bh (v_bh T v) = v := rfl
theorem uu_x_bh (T : XC) (v w : Nat → Int32) : v_bh (v_bh T v) w = v_bh T w := rfl
theorem e_y_bm_bl (T : YM) (v : Int32) : y_bm (z_bl T v) = y_bm T := rfl
theorem e_y_bm_bk (T : YM) (v : Int32) : y_bm (z_bk T v) = y_bm T := rfl
theorem e_y_bm_rs (T : YM) (v : Nat → Int32) : y_bm (z_rs T v) = y_bm T := rfl
theorem e_y_bm_rh (T : YM) (v : Nat → Int32) : y_bm (z_rh T v) = y_bm T := rfl
theorem e_y_bm_so (T : YM) (v : Nat → Int32) : y_bm (z_so T v) = y_bm T := rfl
theorem e_y_bm_ke (T : YM) (v : Nat → Int32) : y_bm (z_ke T v) = y_bm T := rfl
theorem e_y_bm_tr (T : YM) (v : Nat → Int32) : y_bm (z_tr T v) = y_bm T := rfl
theorem e_y_bm_bs (T : YM) (v : Nat → Int32) : y_bm (z_bs T v) = y_bm T := rfl
theorem e_y_bm_bh (T : YM) (v : Nat → Int32) : y_bm (z_bh T v) = y_bm T := rfl
theorem es_y_bm (T : YM) (v : Int32) : y_bm (z_bm T v) = v := rfl
theorem uu_y_bm (T : YM) (v w : Int32) : z_bm (z_bm T v) w = z_bm T w := rfl
theorem e_y_bl_bm (T : YM) (v : Int32) : y_bl (z_bm T v) = y_bl T := rfl
theorem e_y_bl_bk (T : YM) (v : Int32) : y_bl (z_bk T v) = y_bl T := rfl
theorem e_y_bl_rs (T : YM) (v : Nat → Int32) : y_bl (z_rs T v) = y_bl T := rfl
theorem e_y_bl_rh (T : YM) (v : Nat → Int32) : y_bl (z_rh T v) = y_bl T := rfl
theorem e_y_bl_so (T : YM) (v : Nat → Int32) : y_bl (z_so T v) = y_bl T := rfl
theorem e_y_bl_ke (T : YM) (v : Nat → Int32) : y_bl (z_ke T v) = y_bl T := rfl
theorem e_y_bl_tr (T : YM) (v : Nat → Int32) : y_bl (z_tr T v) = y_bl T := rfl
theorem e_y_bl_bs (T : YM) (v : Nat → Int32) : y_bl (z_bs T v) = y_bl T := rfl
theorem e_y_bl_bh (T : YM) (v : Nat → Int32) : y_bl (z_bh T v) = y_bl T := rfl
theorem es_y_bl (T : YM) (v : Int32) : y_bl (z_bl T v) = v := rfl
theorem uu_y_bl (T : YM) (v w : Int32) : z_bl (z_bl T v) w = z_bl T w := rfl
theorem e_y_bk_bm (T : YM) (v : Int32) : y_bk (z_bm T v) = y_bk T := rfl
theorem e_y_bk_bl (T : YM) (v : Int32) : y_bk (z_bl T v) = y_bk T := rfl
theorem e_y_bk_rs (T : YM) (v : Nat → Int32) : y_bk (z_rs T v) = y_bk T := rfl
theorem e_y_bk_rh (T : YM) (v : Nat → Int32) : y_bk (z_rh T v) = y_bk T := rfl
theorem e_y_bk_so (T : YM) (v : Nat → Int32) : y_bk (z_so T v) = y_bk T := rfl
theorem e_y_bk_ke (T : YM) (v : Nat → Int32) : y_bk (z_ke T v) = y_bk T := rfl
theorem e_y_bk_tr (T : YM) (v : Nat → Int32) : y_bk (z_tr T v) = y_bk T := rfl
theorem e_y_bk_bs (T : YM) (v : Nat → Int32) : y_bk (z_bs T v) = y_bk T := rfl
theorem e_y_bk_bh (T : YM) (v : Nat → Int32) : y_bk (z_bh T v) = y_bk T := rfl
theorem es_y_bk (T : YM) (v : Int32) : y_bk (z_bk T v) = v := rfl
theorem uu_y_bk (T : YM) (v w : Int32) : z_bk (z_bk T v) w = z_bk T w := rfl
theorem e_y_rs_bm (T : YM) (v : Int32) : y_rs (z_bm T v) = y_rs T := rfl
theorem e_y_rs_bl (T : YM) (v : Int32) : y_rs (z_bl T v) = y_rs T := rfl
theorem e_y_rs_bk (T : YM) (v : Int32) : y_rs (z_bk T v) = y_rs T := rfl
theorem e_y_rs_rh (T : YM) (v : Nat → Int32) : y_rs (z_rh T v) = y_rs T := rfl
theorem e_y_rs_so (T : YM) (v : Nat → Int32) : y_rs (z_so T v) = y_rs T := rfl
theorem e_y_rs_ke (T : YM) (v : Nat → Int32) : y_rs (z_ke T v) = y_rs T := rfl
theorem e_y_rs_tr (T : YM) (v : Nat → Int32) : y_rs (z_tr T v) = y_rs T := rfl
theorem e_y_rs_bs (T : YM) (v : Nat → Int32) : y_rs (z_bs T v) = y_rs T := rfl
theorem e_y_rs_bh (T : YM) (v : Nat → Int32) : y_rs (z_bh T v) = y_rs T := rfl
theorem es_y_rs (T : YM) (v : Nat → Int32) : y_rs (z_rs T v) = v := rfl
theorem uu_y_rs (T : YM) (v w : Nat → Int32) : z_rs (z_rs T v) w = z_rs T w := rfl
theorem e_y_rh_bm (T : YM) (v : Int32) : y_rh (z_bm T v) = y_rh T := rfl
theorem e_y_rh_bl (T : YM) (v : Int32) : y_rh (z_bl T v) = y_rh T := rfl
theorem e_y_rh_bk (T : YM) (v : Int32) : y_rh (z_bk T v) = y_rh T := rfl
theorem e_y_rh_rs (T : YM) (v : Nat → Int32) : y_rh (z_rs T v) = y_rh T := rfl
theorem e_y_rh_so (T : YM) (v : Nat → Int32) : y_rh (z_so T v) = y_rh T := rfl
theorem e_y_rh_ke (T : YM) (v : Nat → Int32) : y_rh (z_ke T v) = y_rh T := rfl
theorem e_y_rh_tr (T : YM) (v : Nat → Int32) : y_rh (z_tr T v) = y_rh T := rfl
theorem e_y_rh_bs (T : YM) (v : Nat → Int32) : y_rh (z_bs T v) = y_rh T := rfl
theorem e_y_rh_bh (T : YM) (v : Nat → Int32) : y_rh (z_bh T v) = y_rh T := rfl
theorem es_y_rh (T : YM) (v : Nat → Int32) : y_rh (z_rh T v) = v := rfl
theorem uu_y_rh (T : YM) (v w : Nat → Int32) : z_rh (z_rh T v) w = z_rh T w := rfl
theorem e_y_so_bm (T : YM) (v : Int32) : y_so (z_bm T v) = y_so T := rfl
theorem e_y_so_bl (T : YM) (v : Int32) : y_so (z_bl T v) = y_so T := rfl
theorem e_y_so_bk (T : YM) (v : Int32) : y_so (z_bk T v) = y_so T := rfl
theorem e_y_so_rs (T : YM) (v : Nat → Int32) : y_so (z_rs T v) = y_so T := rfl
theorem e_y_so_rh (T : YM) (v : Nat → Int32) : y_so (z_rh T v) = y_so T := rfl
theorem e_y_so_ke (T : YM) (v : Nat → Int32) : y_so (z_ke T v) = y_so T := rfl
theorem e_y_so_tr (T : YM) (v : Nat → Int32) : y_so (z_tr T v) = y_so T := rfl
theorem e_y_so_bs (T : YM) (v : Nat → Int32) : y_so (z_bs T v) = y_so T := rfl
theorem e_y_so_bh (T : YM) (v : Nat → Int32) : y_so (z_bh T v) = y_so T := rfl
theorem es_y_so (T : YM) (v : Nat → Int32) : y_so (z_so T v) = v := rfl
theorem uu_y_so (T : YM) (v w : Nat → Int32) : z_so (z_so T v) w = z_so T w := rfl
theorem e_y_ke_bm (T : YM) (v : Int32) : y_ke (z_bm T v) = y_ke T := rfl
theorem e_y_ke_bl (T : YM) (v : Int32) : y_ke (z_bl T v) = y_ke T := rfl
theorem e_y_ke_bk (T : YM) (v : Int32) : y_ke (z_bk T v) = y_ke T := rfl
theorem e_y_ke_rs (T : YM) (v : Nat → Int32) : y_ke (z_rs T v) = y_ke T := rfl
theorem e_y_ke_rh (T : YM) (v : Nat → Int32) : y_ke (z_rh T v) = y_ke T := rfl
theorem e_y_ke_so (T : YM) (v : Nat → Int32) : y_ke (z_so T v) = y_ke T := rfl
theorem e_y_ke_tr (T : YM) (v : Nat → Int32) : y_ke (z_tr T v) = y_ke T := rfl
theorem e_y_ke_bs (T : YM) (v : Nat → Int32) : y_ke (z_bs T v) = y_ke T := rfl
theorem e_y_ke_bh (T : YM) (v : Nat → Int32) : y_ke (z_bh T v) = y_ke T := rfl
theorem es_y_ke (T : YM) (v : Nat → Int32) : y_ke (z_ke T v) = v := rfl
theorem uu_y_ke (T : YM) (v w : Nat → Int32) : z_ke (z_ke T v) w = z_ke T w := rfl
theorem e_y_tr_bm (T : YM) (v : Int32) : y_tr (z_bm T v) = y_tr T := rfl
theorem e_y_tr_bl (T : YM) (v : Int32) : y_tr (z_bl T v) = y_tr T := rfl
theorem e_y_tr_bk (T : YM) (v : Int32) : y_tr (z_bk T v) = y_tr T := rfl
theorem e_y_tr_rs (T : YM) (v : Nat → Int32) : y_tr (z_rs T v) = y_tr T := rfl
theorem e_y_tr_rh (T : YM) (v : Nat → Int32) : y_tr (z_rh T v) = y_tr T := rfl
theorem e_y_tr_so (T : YM) (v : Nat → Int32) : y_tr (z_so T v) = y_tr T := rfl
theorem e_y_tr_ke (T : YM) (v : Nat → Int32) : y_tr (z_ke T v) = y_tr T := rfl
theorem e_y_tr_bs (T : YM) (v : Nat → Int32) : y_tr (z_bs T v) = y_tr T := rfl
theorem e_y_tr_bh (T : YM) (v : Nat → Int32) : y_tr (z_bh T v) = y_tr T := rfl
theorem es_y_tr (T : YM) (v : Nat → Int32) : y_tr (z_tr T v) = v := rfl
theorem uu_y_tr (T : YM) (v w : Nat → Int32) : z_tr (z_tr T v) w = z_tr T w := rfl
theorem e_y_bs_bm (T : YM) (v : Int32) : y_bs (z_bm T v) = y_bs T := rfl
theorem e_y_bs_bl (T : YM) (v : Int32) : y_bs (z_bl T v) = y_bs T := rfl
theorem e_y_bs_bk (T : YM) (v : Int32) : y_bs (z_bk T v) = y_bs T := rfl
theorem e_y_bs_rs (T : YM) (v : Nat → Int32) : y_bs (z_rs T v) = y_bs T := rfl
theorem e_y_bs_rh (T : YM) (v : Nat → Int32) : y_bs (z_rh T v) = y_bs T := rfl
theorem e_y_bs_so (T : YM) (v : Nat → Int32) : y_bs (z_so T v) = y_bs T := rfl
theorem e_y_bs_ke (T : YM) (v : Nat → Int32) : y_bs (z_ke T v) = y_bs T := rfl
theorem e_y_bs_tr (T : YM) (v : Nat → Int32) : y_bs (z_tr T v) = y_bs T := rfl
theorem e_y_bs_bh (T : YM) (v : Nat → Int32) : y_bs (z_bh T v) = y_bs T := rfl
theorem es_y_bs (T : YM) (v : Nat → Int32) : y_bs (z_bs T v) = v := rfl
theorem uu_y_bs (T : YM) (v w : Nat → Int32) : z_bs (z_bs T v) w = z_bs T w := rfl
theorem e_y_bh_bm (T : YM) (v : Int32) : y_bh (z_bm T v) = y_bh T := rfl
theorem e_y_bh_bl (T : YM) (v : Int32) : y_bh (z_bl T v) = y_bh T := rfl
theorem e_y_bh_bk (T : YM) (v : Int32) : y_bh (z_bk T v) = y_bh T := rfl
theorem e_y_bh_rs (T : YM) (v : Nat → Int32) : y_bh (z_rs T v) = y_bh T := rfl
theorem e_y_bh_rh (T : YM) (v : Nat → Int32) : y_bh (z_rh T v) = y_bh T := rfl
theorem e_y_bh_so (T : YM) (v : Nat → Int32) : y_bh (z_so T v) = y_bh T := rfl
theorem e_y_bh_ke (T : YM) (v : Nat → Int32) : y_bh (z_ke T v) = y_bh T := rfl
theorem e_y_bh_tr (T : YM) (v : Nat → Int32) : y_bh (z_tr T v) = y_bh T := rfl
theorem e_y_bh_bs (T : YM) (v : Nat → Int32) : y_bh (z_bs T v) = y_bh T := rfl
theorem es_y_bh (T : YM) (v : Nat → Int32) : y_bh (z_bh T v) = v := rfl
theorem uu_y_bh (T : YM) (v w : Nat → Int32) : z_bh (z_bh T v) w = z_bh T w := rfl
theorem lv_topc {p : Program} {l : Launch} {e : Env} {R : Room} {s : State} {m : MethodId} {args : Array Value} {below : List Frame} {meth : Method} {c : Code} {H : Heap} {locs : List Loc} {cells slots : Nat} {Q : State → Prop} {pc : Nat} {ls : Array Slot} {rest : List Value} {x y : Int32} (h : x = y) (k : W p l e R s m args below meth c H locs cells slots Q (F0 m pc ls (.int y :: rest))) : W p l e R s m args below meth c H locs cells slots Q (F0 m pc ls (.int x :: rest)) := h ▸ k
