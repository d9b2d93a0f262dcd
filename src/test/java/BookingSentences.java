/** The sentences about bookings: those of 'Terms', and the promises 13 to 17. */
final class BookingSentences {
  private static final int NONE = Warpyard.NONE;
  private static final int OPEN = Warpyard.OPEN;
  private static final int MET = Warpyard.MET;
  private static final int BROKEN = Warpyard.BROKEN;
  private static final String TERMS = "Terms";
  private static final String A_TRAIN = "train: the number of a train";
  private static final String A_BLOCK = "block: 0 to 7";
  private static final String LAST = "last: first to 5000";
  private static final String NO_SUCH = "Throws IndexOutOfBoundsException if there is no such train or block";
  private static final String BAD_MINUTES = "Throws IllegalArgumentException if first or last is out of range";
  private static final String NO_BOOKING = "Throws IndexOutOfBoundsException if there is no such booking";

  private interface Asked {
    Object of(Warpyard yard, int train, int block, int first, int last);
  }

  private BookingSentences() {
  }

  static void test() {
    numbers();
    minutesCounted();
    unlikeTrains();
    met();
    late();
    broken();
    book();
    bookNumbers();
    bookMinutes();
    bookRefused();
    asks("canBook", "Tells whether a train could book a block for some minutes", Warpyard::canBook);
    asks("canBookByMinutes", "Tells the same, minute by minute", Warpyard::canBookByMinutes);
    booking();
    lateAnswers();
  }

  /** The trains 0 on the block 1 and 1 on the block 5, both held, heading right. */
  private static void two(Warpyard x) {
    x.addTrain(1, true);
    x.addTrain(5, true);
    x.hold(0, true);
    x.hold(1, true);
  }

  private static void numbers() {
    Check.says(TERMS, "Bookings are numbered from 0, up to 30");
    Warpyard x = Yards.made(BookingSentences::two);
    for (int i = 0; i < 30; i++) {
      int number = i;
      Check.is("book", number, () -> x.book(number % 2, number % 8, 10 * number, 10 * number + 9));
    }
    Check.badState("a 31st", () -> x.book(0, 0, 4000, 4000));
    Check.is("the 30th", OPEN, () -> x.booking(29));
    Check.noSuch("the 31st", () -> x.booking(30));
  }

  private static void minutesCounted() {
    Check.says(TERMS, "A booking is of a block, for a train, from a minute to another one, both counted");
    Warpyard x = Yards.made(BookingSentences::two, y -> y.book(0, 3, 20, 30));
    canBook(x, 1, 3, 19, 19, true);
    canBook(x, 1, 3, 20, 20, false);
    canBook(x, 1, 3, 30, 30, false);
    canBook(x, 1, 3, 31, 31, true);
    canBook(x, 0, 3, 20, 30, true);
    for (int block = 0; block < 8; block++) {
      canBook(x, 1, block, 25, 25, block != 3);
    }
    Warpyard y = Yards.made(BookingSentences::two, z -> z.book(0, 3, 7, 7));
    canBook(y, 1, 3, 6, 6, true);
    canBook(y, 1, 3, 7, 7, false);
    canBook(y, 1, 3, 8, 8, true);
  }

  private static void canBook(Warpyard x, int train, int block, int first, int last, boolean due) {
    String what = train + ", " + block + ", " + first + ", " + last;
    Check.is("canBook " + what, due, () -> x.canBook(train, block, first, last));
    Check.is("canBookByMinutes " + what, due, () -> x.canBookByMinutes(train, block, first, last));
  }

  private static void unlikeTrains() {
    Check.says(TERMS, "the minutes of two bookings of one block for unlike trains never meet");
    for (int[] span : new int[][] {{20, 20}, {30, 30}, {10, 20}, {30, 40}, {25, 26}, {10, 40}, {20, 30}, {0, 5000}}) {
      Warpyard x = Yards.made(BookingSentences::two, y -> y.book(0, 3, 20, 30));
      String what = span[0] + " to " + span[1];
      Check.is(what + " for another", NONE, () -> x.book(1, 3, span[0], span[1]));
      Check.is(what + " for the same", 1, () -> x.book(0, 3, span[0], span[1]));
      Check.is(what + " of another block", 2, () -> x.book(1, 4, span[0], span[1]));
    }
    for (int[] span : new int[][] {{0, 19}, {19, 19}, {31, 31}, {31, 5000}}) {
      Warpyard x = Yards.made(BookingSentences::two, y -> y.book(0, 3, 20, 30));
      Check.is(span[0] + " to " + span[1], 1, () -> x.book(1, 3, span[0], span[1]));
    }
    Warpyard x = Yards.made(BookingSentences::two, y -> y.book(1, 3, 0, 9), y -> y.book(0, 3, 10, 19));
    Check.is("the first of two", NONE, () -> x.book(0, 3, 9, 19));
    Check.is("the second of two", NONE, () -> x.book(1, 3, 0, 10));
    Warpyard y = Yards.made(BookingSentences::two, z -> z.book(0, 1, 0, 9), z -> z.run(1));
    Check.is("also one that is met", NONE, () -> y.book(1, 1, 9, 9));
  }

  private static void met() {
    Check.says(TERMS, "A booking is met with the first minute of its minutes behind which (when all trains have moved)"
        + " its train stands on its block");
    Warpyard x = Yards.made(BookingSentences::two, y -> y.book(0, 1, 2, 4), y -> y.run(2));
    becomes(x, 0, OPEN, NONE);
    x.run(1);
    becomes(x, 0, MET, 0);
    Warpyard came = Yards.made(y -> y.addTrain(0, true), y -> y.book(0, 1, 0, 0), y -> y.book(0, 0, 0, 0),
        y -> y.run(1));
    becomes(came, 0, MET, 0);
    becomes(came, 1, BROKEN, NONE);
    Warpyard inLast = Yards.made(y -> y.addTrain(0, true), y -> y.book(0, 3, 0, 2), y -> y.run(2));
    becomes(inLast, 0, OPEN, NONE);
    inLast.run(1);
    becomes(inLast, 0, MET, 2);
    Warpyard other = Yards.made(BookingSentences::two, y -> y.book(1, 1, 0, 3), y -> y.run(3));
    becomes(other, 0, OPEN, NONE);
    Warpyard twice = Yards.made(y -> y.addTrain(0, true), y -> y.book(0, 1, 0, 40), y -> y.book(0, 1, 0, 0),
        y -> y.run(1));
    becomes(twice, 0, MET, 0);
    becomes(twice, 1, MET, 0);
    twice.run(40);
    becomes(twice, 0, MET, 0);
    Warpyard only = Yards.made(BookingSentences::two, y -> y.book(0, 1, 0, 0));
    becomes(only, 0, OPEN, NONE);
  }

  private static void becomes(Warpyard x, int booking, int state, int late) {
    Check.is("booking(" + booking + ")", state, () -> x.booking(booking));
    Check.is("late(" + booking + ")", late, () -> x.late(booking));
  }

  private static void late() {
    Check.says(TERMS, "it is late by as many minutes as that is behind its first one");
    for (int first = 0; first <= 4; first++) {
      int minute = first;
      Warpyard x = Yards.made(y -> y.addTrain(0, true), y -> y.book(0, 5, minute, 90), y -> y.run(60));
      becomes(x, 0, MET, 4 - minute);
    }
    Warpyard most = Yards.made(y -> y.addTrain(0, true), y -> y.hold(0, true), y -> y.book(0, 1, 0, 4999));
    Yards.untilClock(4999).to(most);
    becomes(most, 0, OPEN, NONE);
    most.hold(0, false);
    most.run(1);
    becomes(most, 0, MET, 4999);
  }

  private static void broken() {
    Check.says(TERMS, "A booking that is not met when its last minute has run is broken");
    Warpyard x = Yards.made(BookingSentences::two, y -> y.book(0, 3, 1, 4), y -> y.book(0, 1, 1, 4), y -> y.run(4));
    becomes(x, 0, OPEN, NONE);
    x.run(1);
    becomes(x, 0, BROKEN, NONE);
    becomes(x, 1, MET, 0);
    Warpyard late = Yards.made(y -> y.addTrain(0, true), y -> y.book(0, 2, 0, 0), y -> y.run(2));
    becomes(late, 0, BROKEN, NONE);
    Warpyard left = Yards.made(y -> y.addTrain(0, true), y -> y.book(0, 1, 1, 8), y -> y.run(9));
    becomes(left, 0, BROKEN, NONE);
    left.run(1);
    Check.is("its train comes back to its block", 1, () -> left.block(0));
    becomes(left, 0, BROKEN, NONE);
    Warpyard end = Yards.made(BookingSentences::two, y -> y.book(0, 3, 0, 4999), y -> y.book(0, 3, 0, 5000));
    Yards.untilClock(4999).to(end);
    becomes(end, 0, OPEN, NONE);
    end.run(1);
    becomes(end, 0, BROKEN, NONE);
    becomes(end, 1, OPEN, NONE);
  }

  private static void book() {
    Check.says("book", "Books a block");
    Warpyard x = Yards.made(BookingSentences::two, y -> y.hold(0, false), y -> y.book(1, 2, 0, 1));
    Check.is("booked for another", 0, () -> x.run(2));
    Check.is("no longer booked", 1, () -> x.run(1));
    Check.says("book", "Returns the number of the booking");
    Warpyard z = Yards.made(BookingSentences::two);
    Check.is("first", 0, () -> z.book(1, 4, 5, 9));
    Check.is("the same again", 1, () -> z.book(1, 4, 5, 9));
    Check.is("for another is none", NONE, () -> z.book(0, 4, 9, 9));
    Check.badArgument("refused", () -> z.book(0, 4, 9, 8));
    Check.is("what is none or refused takes no number", 2, () -> z.book(0, 4, 10, 10));
    Check.noSuch("no more", () -> z.booking(3));
    Check.says("book", "NONE if it would meet one for another train");
    Warpyard y = Yards.made(BookingSentences::two, w -> w.book(0, 3, 5, 6), w -> w.book(1, 3, 8, 9));
    Check.is("ahead of it", NONE, () -> y.book(1, 3, 4, 5));
    Check.is("behind it", NONE, () -> y.book(1, 3, 6, 7));
    Check.is("between", 2, () -> y.book(1, 3, 7, 7));
    Check.is("the later one", NONE, () -> y.book(0, 3, 0, 8));
    Check.is("NONE books nothing", true, () -> y.canBook(0, 3, 0, 6));
    Check.noSuch("NONE books nothing", () -> y.booking(3));
  }

  private static void bookNumbers() {
    Check.says("book", A_TRAIN);
    Yards.everyTrain((x, train) -> x.book(train, 0, 0, 0));
    Warpyard x = Yards.made(Yards.trains(4));
    for (int i = 0; i < 4; i++) {
      int train = i;
      Check.is("for train " + train, train, () -> x.book(train, 0, train, train));
      Check.is("for no other train", NONE, () -> x.book((train + 1) % 4, 0, train, train));
    }
    Check.says("book", A_BLOCK);
    Yards.everyBlock((y, block) -> y.book(0, block, 0, 0));
    Warpyard y = Yards.made(BookingSentences::two);
    for (int i = 0; i < 8; i++) {
      int block = i;
      Check.is("of block " + block, block, () -> y.book(0, block, 0, 0));
      Check.is("for another train", NONE, () -> y.book(1, block, 0, 0));
    }
  }

  private static void bookMinutes() {
    Check.says("book", "first: the clock to 5000");
    for (int clock : new int[] {0, 1, 77, 4999, 5000}) {
      Warpyard x = Yards.made(BookingSentences::two, Yards.untilClock(clock));
      Check.badArgument("ahead of the clock " + clock, () -> x.book(0, 1, clock - 1, clock));
      Check.is("from the clock " + clock, 0, () -> x.book(0, 1, clock, clock));
      Check.is("from 5000", 1, () -> x.book(0, 2, 5000, 5000));
      Check.badArgument("from 5001", () -> x.book(0, 3, 5001, 5001));
    }
    Check.says("book", LAST);
    Warpyard y = Yards.made(BookingSentences::two);
    Check.is("first", 0, () -> y.book(0, 1, 9, 9));
    Check.badArgument("ahead of first", () -> y.book(0, 2, 9, 8));
    Check.is("5000", 1, () -> y.book(0, 3, 9, 5000));
    Check.badArgument("5001", () -> y.book(0, 4, 9, 5001));
    Check.is("the minute 5000 is counted", NONE, () -> y.book(1, 3, 5000, 5000));
  }

  private static void bookRefused() {
    Check.says("book", NO_SUCH);
    Yards.noSuchTrain((x, train) -> x.book(train, 0, 0, 0));
    Yards.noSuchBlock((x, block) -> x.book(0, block, 0, 0));
    Check.says("book", BAD_MINUTES);
    Told at = Yards.all(Yards.trains(2), Yards.untilClock(40));
    for (int wrong : Yards.outside(40, 5000)) {
      Refusal.badArgument("first " + wrong, at, x -> x.book(0, 0, wrong, 5000));
      Refusal.badArgument("first and last " + wrong, at, x -> x.book(0, 0, wrong, wrong));
    }
    for (int wrong : Yards.outside(60, 5000)) {
      Refusal.badArgument("last " + wrong, at, x -> x.book(0, 0, 60, wrong));
    }
    Refusal.badArgument("first 0 at 1", Yards.all(Yards.trains(1), Yards.untilClock(1)), x -> x.book(0, 0, 0, 1));
    Check.says("book", "Throws IllegalStateException if there are 30 bookings");
    Told full = Yards.all(Yards.trains(2), Yards.bookings(30));
    Refusal.badState("a 31st", full, x -> x.book(0, 0, 0, 0));
    Refusal.badState("a 31st that would meet one", full, x -> x.book(1, 0, 4000, 4000));
    Warpyard x = Yards.made(Yards.trains(2), Yards.bookings(29));
    Check.is("one that meets another is none", NONE, () -> x.book(1, 0, 4000, 4000));
    Check.is("the 30th", 29, () -> x.book(1, 0, 4001, 4001));
    Check.badState("the 31st", () -> x.book(1, 0, 4001, 4001));
    Yards.untilClock(4100).to(x);
    Check.badState("bookings that are broken count", () -> x.book(0, 0, 4100, 4100));
  }

  private static void asks(String name, String tells, Asked asked) {
    Check.says(name, tells);
    Warpyard x = Yards.made(BookingSentences::two, y -> y.book(0, 3, 10, 20), y -> y.book(1, 3, 22, 22));
    asksAround(x, asked);
    asksBehind(x, asked);
    Check.says(name, A_TRAIN);
    Yards.everyTrain((y, train) -> asked.of(y, train, 0, 0, 0));
    Warpyard each = Yards.made(Yards.trains(4), y -> y.book(3, 0, 5, 5));
    for (int i = 0; i < 4; i++) {
      int train = i;
      Check.is("train " + train, train == 3, () -> asked.of(each, train, 0, 0, 10));
    }
    Check.says(name, A_BLOCK);
    Yards.everyBlock((y, block) -> asked.of(y, 0, block, 0, 0));
    for (int i = 0; i < 8; i++) {
      int block = i;
      Warpyard y = Yards.made(BookingSentences::two, z -> z.book(0, block, 0, 0));
      Check.is("block " + block, false, () -> asked.of(y, 1, block, 0, 0));
      Check.is("the block beside " + block, true, () -> asked.of(y, 1, (block + 1) % 8, 0, 0));
    }
    asksMinutes(name, asked);
    Check.says(name, NO_SUCH);
    Yards.noSuchTrain((y, train) -> asked.of(y, train, 0, 0, 0));
    Yards.noSuchBlock((y, block) -> asked.of(y, 0, block, 0, 0));
    asksRefused(name, asked);
  }

  private static void asksAround(Warpyard x, Asked asked) {
    int[][] free = {{0, 9}, {9, 9}, {21, 21}, {21, 5000}, {23, 23}};
    for (int[] span : free) {
      Check.is("free " + span[0] + " to " + span[1], true, () -> asked.of(x, 1, 3, span[0], span[1]));
    }
    int[][] booked = {{0, 10}, {10, 10}, {20, 20}, {20, 21}, {15, 16}, {9, 21}, {0, 5000}};
    for (int[] span : booked) {
      Check.is("booked " + span[0] + " to " + span[1], false, () -> asked.of(x, 1, 3, span[0], span[1]));
    }
    Check.is("booked for itself", true, () -> asked.of(x, 0, 3, 0, 21));
    Check.is("booked for another behind it", false, () -> asked.of(x, 0, 3, 0, 22));
    Check.is("another block", true, () -> asked.of(x, 1, 4, 0, 5000));
    Check.noSuch("asking books nothing", () -> x.booking(2));
  }

  /** Minutes that are past, and a booking that is broken, are asked all the same. */
  private static void asksBehind(Warpyard x, Asked asked) {
    x.run(40);
    Check.is("broken", BROKEN, () -> x.booking(0));
    Check.is("free, ahead of the clock", true, () -> asked.of(x, 1, 3, 0, 9));
    Check.is("booked, ahead of the clock", false, () -> asked.of(x, 1, 3, 20, 20));
    Check.is("free, from the clock on", true, () -> asked.of(x, 1, 3, 40, 5000));
    Warpyard full = Yards.made(Yards.trains(2), Yards.bookings(30));
    Check.is("with 30 bookings, free", true, () -> asked.of(full, 1, 0, 3999, 3999));
    Check.is("with 30 bookings, booked", false, () -> asked.of(full, 1, 0, 4000, 4000));
  }

  private static void asksMinutes(String name, Asked asked) {
    Check.says(name, "first: 0 to 5000");
    Warpyard x = Yards.made(BookingSentences::two, Yards.untilClock(50), y -> y.book(0, 3, 5000, 5000));
    Check.is("0", true, () -> asked.of(x, 1, 3, 0, 4999));
    Check.is("5000", false, () -> asked.of(x, 1, 3, 5000, 5000));
    Check.badArgument("-1", () -> asked.of(x, 1, 3, -1, 0));
    Check.badArgument("5001", () -> asked.of(x, 1, 3, 5001, 5001));
    Check.says(name, LAST);
    Check.is("first", true, () -> asked.of(x, 1, 3, 7, 7));
    Check.badArgument("ahead of first", () -> asked.of(x, 1, 3, 7, 6));
    Check.is("5000", false, () -> asked.of(x, 1, 3, 7, 5000));
    Check.badArgument("5001", () -> asked.of(x, 1, 3, 7, 5001));
  }

  private static void asksRefused(String name, Asked asked) {
    Check.says(name, BAD_MINUTES);
    for (int wrong : Yards.outside(0, 5000)) {
      Refusal.badArgument("first " + wrong, Yards.trains(2), y -> asked.of(y, 0, 0, wrong, 5000));
      Refusal.badArgument("first and last " + wrong, Yards.trains(2), y -> asked.of(y, 0, 0, wrong, wrong));
    }
    for (int wrong : Yards.outside(60, 5000)) {
      Refusal.badArgument("last " + wrong, Yards.trains(2), y -> asked.of(y, 0, 0, 60, wrong));
    }
    Refusal.badArgument("last 4999", Yards.trains(2), y -> asked.of(y, 0, 0, 5000, 4999));
    Refusal.badArgument("last -1", Yards.trains(2), y -> asked.of(y, 0, 0, 0, -1));
  }

  /** The bookings 0 to 2 are met, broken and open. */
  private static void oneOfEach(Warpyard x) {
    two(x);
    x.book(0, 1, 0, 9);
    x.book(0, 2, 0, 0);
    x.book(0, 3, 0, 1);
    x.run(1);
  }

  private static void booking() {
    Check.says("booking", "Returns what became of a booking");
    Warpyard x = Yards.made(BookingSentences::two, y -> y.book(0, 2, 0, 5), y -> y.book(1, 5, 3, 5));
    Check.is("open at first", OPEN, () -> x.booking(0));
    x.run(4);
    Check.is("open still", OPEN, () -> x.booking(0));
    Check.is("met", MET, () -> x.booking(1));
    x.run(2);
    Check.is("broken", BROKEN, () -> x.booking(0));
    Check.is("met still", MET, () -> x.booking(1));
    Check.says("booking", "booking: the number of a booking");
    Warpyard full = Yards.made(Yards.trains(1), Yards.bookings(30));
    for (int i = 0; i < 30; i++) {
      int number = i;
      Check.is("booking " + number, OPEN, () -> full.booking(number));
    }
    Check.says("booking", "Returns OPEN, MET or BROKEN");
    Warpyard each = Yards.made(BookingSentences::oneOfEach);
    Check.is("MET", MET, () -> each.booking(0));
    Check.is("BROKEN", BROKEN, () -> each.booking(1));
    Check.is("OPEN", OPEN, () -> each.booking(2));
    Check.says("booking", NO_BOOKING);
    noSuchBooking((y, number) -> y.booking(number));
  }

  private static void noSuchBooking(Yards.OfNumber call) {
    for (int count : new int[] {0, 1, 29, 30}) {
      for (int wrong : Yards.outside(0, count - 1)) {
        Told made = Yards.all(Yards.trains(1), Yards.bookings(count));
        Refusal.noSuch("booking " + wrong + " of " + count, made, x -> call.to(x, wrong));
      }
    }
  }

  private static void lateAnswers() {
    Check.says("late", "Returns by how many minutes a booking was late");
    Warpyard x = Yards.made(y -> y.addTrain(0, true), y -> y.book(0, 3, 1, 9), y -> y.run(9));
    Check.is("late", 1, () -> x.late(0));
    Check.says("late", "booking: the number of a booking");
    Warpyard full = Yards.made(y -> y.addTrain(1, true), y -> y.hold(0, true));
    for (int i = 0; i < 30; i++) {
      full.book(0, 1, i, 100);
    }
    full.run(30);
    for (int i = 0; i < 30; i++) {
      int number = i;
      Check.is("late(" + number + ")", 0, () -> full.late(number));
    }
    Check.says("late", "Returns the minutes");
    Warpyard each = Yards.made(y -> y.addTrain(0, true), y -> y.book(0, 2, 0, 9), y -> y.book(0, 2, 1, 9),
        y -> y.run(9));
    Check.is("1 minute", 1, () -> each.late(0));
    Check.is("0 minutes", 0, () -> each.late(1));
    Check.says("late", "NONE if it is not met");
    Warpyard not = Yards.made(BookingSentences::oneOfEach);
    Check.is("met", 0, () -> not.late(0));
    Check.is("broken", NONE, () -> not.late(1));
    Check.is("open", NONE, () -> not.late(2));
    Check.says("late", NO_BOOKING);
    noSuchBooking((y, number) -> y.late(number));
  }
}
