abbrev vwCl : List vw_C := [(RX1, TX1, 9), (RX2, TX2, 3), (RX3, TX3, 6), (RX4, TX4, 12), (RX5, TX5, 2), (RX6, TX6, 7)]
