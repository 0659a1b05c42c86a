abbrev vwCl : List vw_C := [(RX0, TX0, 4), (RX1, TX1, 4), (RX2, TX2, 6), (RX3, TX3, 3), (RX4, TX4, 16), (RX5, TX5, 36)]
