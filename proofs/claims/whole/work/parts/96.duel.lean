theorem st_duel {X M : Sg} (hI : Inv X M) (n f : Int32) : p_X5_duel 0 n f X (fun u X' => p_X6_duel 0 n f M (fun u' M' => Z X' M' u u')) := sorry
