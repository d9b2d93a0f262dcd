/** All that can be asked of a yard, as one text; some 200 calls. */
final class Sight {
  private Sight() {
  }

  static String of(Warpyard x) {
    StringBuilder all = new StringBuilder("clock ").append(x.clock()).append(" earned ").append(x.earned());
    int trains = trains(x, all);
    for (int block = 0; block < 8; block++) {
      all.append(" on ").append(x.trainOn(block));
    }
    bookings(x, all);
    rows(x, trains, all);
    return all.toString();
  }

  private static int trains(Warpyard x, StringBuilder all) {
    for (int train = 0; train < 4; train++) {
      int number = train;
      Object block = Check.outcome(() -> x.block(number));
      if (!(block instanceof Integer)) {
        return train;
      }
      all.append(" train ").append(block).append(x.isRight(train));
      for (int to = 0; to < 8; to++) {
        all.append(' ').append(x.reaches(train, to));
      }
    }
    return 4;
  }

  private static void bookings(Warpyard x, StringBuilder all) {
    for (int booking = 0; booking < 30; booking++) {
      int number = booking;
      Object state = Check.outcome(() -> x.booking(number));
      all.append(" booking ").append(state);
      if (!(state instanceof Integer)) {
        return;
      }
      all.append(' ').append(x.late(number));
    }
  }

  private static void rows(Warpyard x, int trains, StringBuilder all) {
    for (int row = 0; row < 2 + trains; row++) {
      int where = row < 2 ? 6 + row : 8 + row;
      all.append(" row");
      for (int place = 0; place == 0 || x.waggonAt(where, place - 1) != Warpyard.NONE; place++) {
        all.append(' ').append(x.waggonAt(where, place));
      }
    }
  }
}
